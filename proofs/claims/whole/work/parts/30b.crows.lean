set_option maxRecDepth 100000 in
set_option maxHeartbeats 4000000 in
theorem c_X4_refuse (l : Launch) (D : va_G) (yc : Nat → ClassId) (t1 t2 : Nat) (a : Int → Nat) (A : Nat → Prop) (g : Mm) (w : Int) (hw : 0 ≤ w ∧ w ≤ 5) : Ci l yX4_refuse wsX4_refuse { frames := 1, cells := 0, slots := 0, locals := 21 } D yc t1 t2 A (cw a yc) [.ref (a (0)), .int (iI (w))] g (fun r9 g' => r9 = (iI (-3)) ∧ g' = (fnC g w)) := by
  refine start_i (cc := cX4_refuse) (nL := 2) (ret := (some .int)) (own := RX4) (by decide +kernel) rfl rfl (Nat.le_of_ble_eq_true rfl) ?_
  intro p e s m9 below meth c9 C
  have wf36 : Cond.fieldLink RX4 36 (TX4 5).1 (TX4 5).2.1 (TX4 5).2.2.1 ∈ wsX4_refuse := by decide +kernel
  have hinX4 : ∀ w ∈ u_ws RX4 TX4 10, w ∈ wsX4_refuse := by decide +kernel
  have wf285 : Cond.fieldLink RX4 285 (TX4 6).1 (TX4 6).2.1 (TX4 6).2.2.1 ∈ wsX4_refuse := by decide +kernel
  refine v_lv (lv' := [(0, .ref (a (0))), (1, .int (iI (w)))]) rfl ?_
  refine v_iload_n C 1 dX4_refuse_0 rfl ?_
  refine v_aload_n C 0 dX4_refuse_1 rfl ?_
  refine v_getf C (by omega) (by omega) ct_cow rfl 5 (by decide) wf36 hinX4 rfl dX4_refuse_2 ?_
  refine v_alen C (by omega) (by omega) 0 rfl ct_fc dX4_refuse_5 ?_
  refine v_st (st' := [.int (iI (6)), .int (iI (w))]) rfl ?_
  refine v_cS_i C (As := [.int (iI (w)), .int (iI (6))]) (rest := []) (c_X4_isNone l D yc t1 t2 A (cw a yc) g w 6 (by omega) (by omega)) (va_cwS 2 C.hts gX4_refuse_X4_isNone rfl rfl rfl (by decide +kernel) ⟨by decide, by decide⟩) rfl rfl (Nat.le_of_ble_eq_true rfl) dX4_refuse_6 ?_
  intro r9 g9 h9
  rw [h9.1, h9.2]
  clear h9 g9 r9
  try dsimp only
  refine v_ifb_ne (tgt := 27) C dX4_refuse_9 (by decide) (fun c9 => ?_) (fun c9 => ?_)
  · exact absurd c9 (by omega)
  · skip
    refine v_aload_n C 0 dX4_refuse_12 rfl ?_
    refine v_iload_n C 1 dX4_refuse_13 rfl ?_
    refine v_puti C (cta_L a yc) (by omega) (by omega) ct_cow rfl 6 (by decide) wf285 hinX4 tyX4 tyX4_ok nmX4 rfl (by decide +kernel) (by simp) cs_cow_6 dX4_refuse_14 ?_
    refine v_g (g' := (mu g (0) (6) (w))) rfl ?_
    refine v_aload_n C 0 dX4_refuse_17 rfl ?_
    refine v_getf C (by omega) (by omega) ct_cow rfl 5 (by decide) wf36 hinX4 rfl dX4_refuse_18 ?_
    refine v_iload_n C 1 dX4_refuse_21 rfl ?_
    refine v_dup2 C dX4_refuse_22 rfl rfl ?_
    refine v_iaload C (by omega) (by omega) ct_fc (by omega) (by omega) (by decide) dX4_refuse_23 ?_
    refine v_st (st' := [.int (iI (g (5) (w))), .int (iI (w)), .ref (a (5))]) (by rw [mu_ne (show 5 ≠ 0 by omega)]) ?_
    refine v_iconst C dX4_refuse_24 ?_
    refine v_iadd C dX4_refuse_25 ?_
    refine v_iastore C (cta_L a yc) (by omega) (by omega) ct_fc (ct_fc).symm (by omega) (by omega) (by decide) dX4_refuse_26 ?_
    refine v_bipush C dX4_refuse_27 (by decide) ?_
    exact v_ret_i C rfl dX4_refuse_29 ⟨rfl, rfl⟩

set_option maxRecDepth 100000 in
set_option maxHeartbeats 4000000 in
theorem c_X4_makeAnew_r (l : Launch) (D : va_G) (yc : Nat → ClassId) (t1 t2 : Nat) (a : Int → Nat) (A : Nat → Prop) (g : Mm) (i n v : Int) (hi : R32 i) (hn : R32 n) : Ci l yX4_makeAnew wsX4_makeAnew { frames := 2, cells := 0, slots := 0, locals := 47 } D yc t1 t2 A (cw a yc) [.ref (a (0)), .ref (a (1)), .int (iI (i)), .int (iI (n)), .int (iI (v))] g (fun r9 g' => r9 = (iI (if (i < 0 ∨ 5 < i) ∨ 40 < n then -1 else if n < 0 then -3 else n)) ∧ g' = (if (i < 0 ∨ 5 < i) ∨ 40 < n then g else if n < 0 then fnC g 5 else fil (mu g (6 + i) 1 n) (16 + i) n v)) := by
  refine start_i (cc := cX4_makeAnew) (nL := 5) (ret := (some .int)) (own := RX4) (by decide +kernel) rfl rfl (Nat.le_of_ble_eq_true rfl) ?_
  intro p e s m9 below meth c9 C
  have wf63 : Cond.fieldLink RX4 63 (TX3 0).1 (TX3 0).2.1 (TX3 0).2.2.1 ∈ wsX4_makeAnew := by decide +kernel
  have hinX3 : ∀ w ∈ u_ws RX3 TX3 2, w ∈ wsX4_makeAnew := by decide +kernel
  refine v_lv (lv' := [(0, .ref (a (0))), (1, .ref (a (1))), (2, .int (iI (i))), (3, .int (iI (n))), (4, .int (iI (v)))]) rfl ?_
  refine v_iload_n C 2 dX4_makeAnew_0 rfl ?_
  refine v_aload_n C 1 dX4_makeAnew_1 rfl ?_
  refine v_alen C (by omega) (by omega) 4 rfl ct_rowsA dX4_makeAnew_2 ?_
  refine v_st (st' := [.int (iI (6)), .int (iI (i))]) rfl ?_
  refine v_cS_i C (As := [.int (iI (i)), .int (iI (6))]) (rest := []) (c_X4_isNone l D yc t1 t2 A (cw a yc) g i 6 (by omega) (by omega)) (va_cwS 2 C.hts gX4_makeAnew_X4_isNone rfl rfl rfl (by decide +kernel) ⟨by decide, by decide⟩) rfl rfl (Nat.le_of_ble_eq_true rfl) dX4_makeAnew_3 ?_
  intro r9 g9 h9
  rw [h9.1, h9.2]
  clear h9 g9 r9
  try dsimp only
  refine v_ifb_ne (tgt := 20) C dX4_makeAnew_6 (by decide) (fun c6 => ?_) (fun c6 => ?_)
  · skip
    refine v_iconst C dX4_makeAnew_20 ?_
    exact v_ret_i C rfl dX4_makeAnew_21 ⟨(by repeat (first | rfl | rw [if_pos (by omega)] | rw [if_neg (by omega)])), (by repeat (first | rfl | rw [if_pos (by omega)] | rw [if_neg (by omega)]))⟩
  · skip
    refine v_iload_n C 3 dX4_makeAnew_9 rfl ?_
    refine v_aload_n C 1 dX4_makeAnew_10 rfl ?_
    refine v_iload_n C 2 dX4_makeAnew_11 rfl ?_
    refine v_aaload (f := fun j => 6 + j) C (by omega) (by omega) 4 rfl ct_rowsA (by omega) (by omega) (by decide) dX4_makeAnew_12 ?_
    refine v_getf C (by omega) (by omega) (ct_row (by omega) (by omega)) rfl 0 (by decide) wf63 hinX3 rfl dX4_makeAnew_13 ?_
    refine v_alen C (by omega) (by omega) 0 rfl (ct_places (by omega) (by omega)) dX4_makeAnew_16 ?_
    refine v_st (st' := [.int (iI (40)), .int (iI (n))]) (by rw [rl40 (by omega)]) ?_
    refine v_icmp_le (tgt := 22) C dX4_makeAnew_17 (by decide) (by omega) (by omega) (fun c17 => ?_) (fun c17 => ?_)
    · skip
      refine v_iload_n C 3 dX4_makeAnew_22 rfl ?_
      refine v_if_ge (tgt := 32) C dX4_makeAnew_23 (by decide) (by omega) (fun c23 => ?_) (fun c23 => ?_)
      · skip
        refine v_aload_n C 1 dX4_makeAnew_32 rfl ?_
        refine v_iload_n C 2 dX4_makeAnew_33 rfl ?_
        refine v_aaload (f := fun j => 6 + j) C (by omega) (by omega) 4 rfl ct_rowsA (by omega) (by omega) (by decide) dX4_makeAnew_34 ?_
        refine v_iload_n C 3 dX4_makeAnew_35 rfl ?_
        refine v_iload C 4 dX4_makeAnew_36 rfl ?_
        refine v_cV_v C (As := [.int (iI (n)), .int (iI (v))]) (rest := []) (c_X3_become l D yc t1 t2 a A g i n v (by omega) (by rw [rl40 (by omega)]; omega)) (cwV 2 C.hts gX4_makeAnew_X3_become rfl rfl rfl (by decide +kernel) ⟨by decide, by decide⟩) (fun H hP => va_recv C.hK hP (ci := 3) (q0 := (6 + i : Int).toNat) rfl (wo_is (by omega) (by omega) (ct_row (by omega) (by omega)))) rfl rfl (Nat.le_of_ble_eq_true rfl) dX4_makeAnew_38 ?_
        intro g9 h9
        rw [h9]
        clear h9 g9
        try dsimp only
        refine v_iload_n C 3 dX4_makeAnew_41 rfl ?_
        exact v_ret_i C rfl dX4_makeAnew_42 ⟨(by repeat (first | rfl | rw [if_pos (by omega)] | rw [if_neg (by omega)])), (by repeat (first | rfl | rw [if_pos (by omega)] | rw [if_neg (by omega)]))⟩
      · skip
        refine v_aload_n C 0 dX4_makeAnew_26 rfl ?_
        refine v_iconst C dX4_makeAnew_27 ?_
        refine v_cV_i C (As := [.int (iI (5))]) (rest := []) (c_X4_refuse l D yc t1 t2 a A g 5 (by omega)) (cwV 1 C.hts gX4_makeAnew_X4_refuse rfl rfl rfl (by decide +kernel) ⟨by decide, by decide⟩) (fun H hP => va_recv C.hK hP (ci := 4) (q0 := (0 : Int).toNat) rfl (wo_is (by omega) (by omega) ct_cow)) rfl rfl (Nat.le_of_ble_eq_true rfl) dX4_makeAnew_28 ?_
        intro r9 g9 h9
        rw [h9.1, h9.2]
        clear h9 g9 r9
        try dsimp only
        exact v_ret_i C rfl dX4_makeAnew_31 ⟨(by repeat (first | rfl | rw [if_pos (by omega)] | rw [if_neg (by omega)])), (by repeat (first | rfl | rw [if_pos (by omega)] | rw [if_neg (by omega)]))⟩
    · skip
      refine v_iconst C dX4_makeAnew_20 ?_
      exact v_ret_i C rfl dX4_makeAnew_21 ⟨(by repeat (first | rfl | rw [if_pos (by omega)] | rw [if_neg (by omega)])), (by repeat (first | rfl | rw [if_pos (by omega)] | rw [if_neg (by omega)]))⟩

set_option maxRecDepth 100000 in
set_option maxHeartbeats 4000000 in
theorem c_X4_row (l : Launch) (D : va_G) (yc : Nat → ClassId) (t1 t2 : Nat) (a : Int → Nat) (A : Nat → Prop) (g : Mm) (i n : Int) (hi : R32 i) (hn : R32 n) : Ci l yX4_row wsX4_row { frames := 3, cells := 0, slots := 0, locals := 71 } D yc t1 t2 A (cw a yc) [.ref (a (0)), .int (iI (i)), .int (iI (n))] g (fun r9 g' => r9 = (iI (if (i < 0 ∨ 5 < i) ∨ 40 < n then -1 else if n < 0 then -3 else n)) ∧ g' = (if (i < 0 ∨ 5 < i) ∨ 40 < n then g else if n < 0 then fnC g 5 else fil (mu g (6 + i) 1 n) (16 + i) n 0)) := by
  refine start_i (cc := cX4_row) (nL := 3) (ret := (some .int)) (own := RX4) (by decide +kernel) rfl rfl (Nat.le_of_ble_eq_true rfl) ?_
  intro p e s m9 below meth c9 C
  have wf11 : Cond.fieldLink RX4 11 (TX4 0).1 (TX4 0).2.1 (TX4 0).2.2.1 ∈ wsX4_row := by decide +kernel
  have hinX4 : ∀ w ∈ u_ws RX4 TX4 10, w ∈ wsX4_row := by decide +kernel
  refine v_lv (lv' := [(0, .ref (a (0))), (1, .int (iI (i))), (2, .int (iI (n)))]) rfl ?_
  refine v_aload_n C 0 dX4_row_0 rfl ?_
  refine v_aload_n C 0 dX4_row_1 rfl ?_
  refine v_getf C (by omega) (by omega) ct_cow rfl 0 (by decide) wf11 hinX4 rfl dX4_row_2 ?_
  refine v_iload_n C 1 dX4_row_5 rfl ?_
  refine v_iload_n C 2 dX4_row_6 rfl ?_
  refine v_iconst C dX4_row_7 ?_
  refine v_cV_i C (As := [.ref (a (1)), .int (iI (i)), .int (iI (n)), .int (iI (0))]) (rest := []) (c_X4_makeAnew_r l D yc t1 t2 a A g i n 0 (by omega) (by omega)) (cwV 4 C.hts gX4_row_X4_makeAnew rfl rfl rfl (by decide +kernel) ⟨by decide, by decide⟩) (fun H hP => va_recv C.hK hP (ci := 4) (q0 := (0 : Int).toNat) rfl (wo_is (by omega) (by omega) ct_cow)) rfl rfl (Nat.le_of_ble_eq_true rfl) dX4_row_8 ?_
  intro r9 g9 h9
  rw [h9.1, h9.2]
  clear h9 g9 r9
  try dsimp only
  exact v_ret_i C rfl dX4_row_11 ⟨rfl, rfl⟩

set_option maxRecDepth 100000 in
set_option maxHeartbeats 4000000 in
theorem c_X4_makeAnew_t (l : Launch) (D : va_G) (yc : Nat → ClassId) (t1 t2 : Nat) (a : Int → Nat) (A : Nat → Prop) (g : Mm) (i n v : Int) (hi : R32 i) (hn : R32 n) : Ci l yX4_makeAnew wsX4_makeAnew { frames := 2, cells := 0, slots := 0, locals := 47 } D yc t1 t2 A (cw a yc) [.ref (a (0)), .ref (a (2)), .int (iI (i)), .int (iI (n)), .int (iI (v))] g (fun r9 g' => r9 = (iI (if (i < 0 ∨ 3 < i) ∨ 60 < n then -1 else if n < 0 then -3 else n)) ∧ g' = (if (i < 0 ∨ 3 < i) ∨ 60 < n then g else if n < 0 then fnC g 5 else fil (mu g (6 + (6 + i)) 1 n) (16 + (6 + i)) n v)) := by
  refine start_i (cc := cX4_makeAnew) (nL := 5) (ret := (some .int)) (own := RX4) (by decide +kernel) rfl rfl (Nat.le_of_ble_eq_true rfl) ?_
  intro p e s m9 below meth c9 C
  have wf63 : Cond.fieldLink RX4 63 (TX3 0).1 (TX3 0).2.1 (TX3 0).2.2.1 ∈ wsX4_makeAnew := by decide +kernel
  have hinX3 : ∀ w ∈ u_ws RX3 TX3 2, w ∈ wsX4_makeAnew := by decide +kernel
  refine v_lv (lv' := [(0, .ref (a (0))), (1, .ref (a (2))), (2, .int (iI (i))), (3, .int (iI (n))), (4, .int (iI (v)))]) rfl ?_
  refine v_iload_n C 2 dX4_makeAnew_0 rfl ?_
  refine v_aload_n C 1 dX4_makeAnew_1 rfl ?_
  refine v_alen C (by omega) (by omega) 4 rfl ct_textsA dX4_makeAnew_2 ?_
  refine v_st (st' := [.int (iI (4)), .int (iI (i))]) rfl ?_
  refine v_cS_i C (As := [.int (iI (i)), .int (iI (4))]) (rest := []) (c_X4_isNone l D yc t1 t2 A (cw a yc) g i 4 (by omega) (by omega)) (va_cwS 2 C.hts gX4_makeAnew_X4_isNone rfl rfl rfl (by decide +kernel) ⟨by decide, by decide⟩) rfl rfl (Nat.le_of_ble_eq_true rfl) dX4_makeAnew_3 ?_
  intro r9 g9 h9
  rw [h9.1, h9.2]
  clear h9 g9 r9
  try dsimp only
  refine v_ifb_ne (tgt := 20) C dX4_makeAnew_6 (by decide) (fun c6 => ?_) (fun c6 => ?_)
  · skip
    refine v_iconst C dX4_makeAnew_20 ?_
    exact v_ret_i C rfl dX4_makeAnew_21 ⟨(by repeat (first | rfl | rw [if_pos (by omega)] | rw [if_neg (by omega)])), (by repeat (first | rfl | rw [if_pos (by omega)] | rw [if_neg (by omega)]))⟩
  · skip
    refine v_iload_n C 3 dX4_makeAnew_9 rfl ?_
    refine v_aload_n C 1 dX4_makeAnew_10 rfl ?_
    refine v_iload_n C 2 dX4_makeAnew_11 rfl ?_
    refine v_aaload (f := fun j => 6 + (6 + j)) C (by omega) (by omega) 4 rfl ct_textsA (by omega) (by omega) (by decide) dX4_makeAnew_12 ?_
    refine v_getf C (by omega) (by omega) (ct_row (by omega) (by omega)) rfl 0 (by decide) wf63 hinX3 rfl dX4_makeAnew_13 ?_
    refine v_alen C (by omega) (by omega) 0 rfl (ct_places (by omega) (by omega)) dX4_makeAnew_16 ?_
    refine v_st (st' := [.int (iI (60)), .int (iI (n))]) (by rw [rl60 (by omega)]) ?_
    refine v_icmp_le (tgt := 22) C dX4_makeAnew_17 (by decide) (by omega) (by omega) (fun c17 => ?_) (fun c17 => ?_)
    · skip
      refine v_iload_n C 3 dX4_makeAnew_22 rfl ?_
      refine v_if_ge (tgt := 32) C dX4_makeAnew_23 (by decide) (by omega) (fun c23 => ?_) (fun c23 => ?_)
      · skip
        refine v_aload_n C 1 dX4_makeAnew_32 rfl ?_
        refine v_iload_n C 2 dX4_makeAnew_33 rfl ?_
        refine v_aaload (f := fun j => 6 + (6 + j)) C (by omega) (by omega) 4 rfl ct_textsA (by omega) (by omega) (by decide) dX4_makeAnew_34 ?_
        refine v_iload_n C 3 dX4_makeAnew_35 rfl ?_
        refine v_iload C 4 dX4_makeAnew_36 rfl ?_
        refine v_cV_v C (As := [.int (iI (n)), .int (iI (v))]) (rest := []) (c_X3_become l D yc t1 t2 a A g (6 + i) n v (by omega) (by rw [rl60 (by omega)]; omega)) (cwV 2 C.hts gX4_makeAnew_X3_become rfl rfl rfl (by decide +kernel) ⟨by decide, by decide⟩) (fun H hP => va_recv C.hK hP (ci := 3) (q0 := (6 + (6 + i) : Int).toNat) rfl (wo_is (by omega) (by omega) (ct_row (by omega) (by omega)))) rfl rfl (Nat.le_of_ble_eq_true rfl) dX4_makeAnew_38 ?_
        intro g9 h9
        rw [h9]
        clear h9 g9
        try dsimp only
        refine v_iload_n C 3 dX4_makeAnew_41 rfl ?_
        exact v_ret_i C rfl dX4_makeAnew_42 ⟨(by repeat (first | rfl | rw [if_pos (by omega)] | rw [if_neg (by omega)])), (by repeat (first | rfl | rw [if_pos (by omega)] | rw [if_neg (by omega)]))⟩
      · skip
        refine v_aload_n C 0 dX4_makeAnew_26 rfl ?_
        refine v_iconst C dX4_makeAnew_27 ?_
        refine v_cV_i C (As := [.int (iI (5))]) (rest := []) (c_X4_refuse l D yc t1 t2 a A g 5 (by omega)) (cwV 1 C.hts gX4_makeAnew_X4_refuse rfl rfl rfl (by decide +kernel) ⟨by decide, by decide⟩) (fun H hP => va_recv C.hK hP (ci := 4) (q0 := (0 : Int).toNat) rfl (wo_is (by omega) (by omega) ct_cow)) rfl rfl (Nat.le_of_ble_eq_true rfl) dX4_makeAnew_28 ?_
        intro r9 g9 h9
        rw [h9.1, h9.2]
        clear h9 g9 r9
        try dsimp only
        exact v_ret_i C rfl dX4_makeAnew_31 ⟨(by repeat (first | rfl | rw [if_pos (by omega)] | rw [if_neg (by omega)])), (by repeat (first | rfl | rw [if_pos (by omega)] | rw [if_neg (by omega)]))⟩
    · skip
      refine v_iconst C dX4_makeAnew_20 ?_
      exact v_ret_i C rfl dX4_makeAnew_21 ⟨(by repeat (first | rfl | rw [if_pos (by omega)] | rw [if_neg (by omega)])), (by repeat (first | rfl | rw [if_pos (by omega)] | rw [if_neg (by omega)]))⟩

set_option maxRecDepth 100000 in
set_option maxHeartbeats 4000000 in
theorem c_X4_text (l : Launch) (D : va_G) (yc : Nat → ClassId) (t1 t2 : Nat) (a : Int → Nat) (A : Nat → Prop) (g : Mm) (i n : Int) (hi : R32 i) (hn : R32 n) : Ci l yX4_text wsX4_text { frames := 3, cells := 0, slots := 0, locals := 71 } D yc t1 t2 A (cw a yc) [.ref (a (0)), .int (iI (i)), .int (iI (n))] g (fun r9 g' => r9 = (iI (if (i < 0 ∨ 3 < i) ∨ 60 < n then -1 else if n < 0 then -3 else n)) ∧ g' = (if (i < 0 ∨ 3 < i) ∨ 60 < n then g else if n < 0 then fnC g 5 else fil (mu g (6 + (6 + i)) 1 n) (16 + (6 + i)) n 32)) := by
  refine start_i (cc := cX4_text) (nL := 3) (ret := (some .int)) (own := RX4) (by decide +kernel) rfl rfl (Nat.le_of_ble_eq_true rfl) ?_
  intro p e s m9 below meth c9 C
  have wf15 : Cond.fieldLink RX4 15 (TX4 1).1 (TX4 1).2.1 (TX4 1).2.2.1 ∈ wsX4_text := by decide +kernel
  have hinX4 : ∀ w ∈ u_ws RX4 TX4 10, w ∈ wsX4_text := by decide +kernel
  refine v_lv (lv' := [(0, .ref (a (0))), (1, .int (iI (i))), (2, .int (iI (n)))]) rfl ?_
  refine v_aload_n C 0 dX4_text_0 rfl ?_
  refine v_aload_n C 0 dX4_text_1 rfl ?_
  refine v_getf C (by omega) (by omega) ct_cow rfl 1 (by decide) wf15 hinX4 rfl dX4_text_2 ?_
  refine v_iload_n C 1 dX4_text_5 rfl ?_
  refine v_iload_n C 2 dX4_text_6 rfl ?_
  refine v_bipush C dX4_text_7 (by decide) ?_
  refine v_cV_i C (As := [.ref (a (2)), .int (iI (i)), .int (iI (n)), .int (iI (32))]) (rest := []) (c_X4_makeAnew_t l D yc t1 t2 a A g i n 32 (by omega) (by omega)) (cwV 4 C.hts gX4_text_X4_makeAnew rfl rfl rfl (by decide +kernel) ⟨by decide, by decide⟩) (fun H hP => va_recv C.hK hP (ci := 4) (q0 := (0 : Int).toNat) rfl (wo_is (by omega) (by omega) ct_cow)) rfl rfl (Nat.le_of_ble_eq_true rfl) dX4_text_9 ?_
  intro r9 g9 h9
  rw [h9.1, h9.2]
  clear h9 g9 r9
  try dsimp only
  exact v_ret_i C rfl dX4_text_12 ⟨rfl, rfl⟩

set_option maxRecDepth 100000 in
set_option maxHeartbeats 4000000 in
theorem c_X4_at (l : Launch) (D : va_G) (yc : Nat → ClassId) (t1 t2 : Nat) (a : Int → Nat) (A : Nat → Prop) (g : Mm) (r i : Int) (hr : R32 r) (hi : R32 i) (HC : CI g) : Ci l yX4_at wsX4_at { frames := 2, cells := 0, slots := 0, locals := 42 } D yc t1 t2 A (cw a yc) [.ref (a (0)), .int (iI (r)), .int (iI (i))] g (fun r9 g' => r9 = (iI (if r < 0 ∨ 5 < r then -1 else if g (6 + r) 1 < 0 then -3 else if i < 0 ∨ g (6 + r) 1 ≤ i then -3 else 1)) ∧ g' = (if r < 0 ∨ 5 < r then g else if g (6 + r) 1 < 0 then fnC g 1 else if i < 0 ∨ g (6 + r) 1 ≤ i then fnC g 2 else mu g 0 7 (g (16 + r) i))) := by
  refine start_i (cc := cX4_at) (nL := 4) (ret := (some .int)) (own := RX4) (by decide +kernel) rfl rfl (Nat.le_of_ble_eq_true rfl) ?_
  intro p e s m9 below meth c9 C
  have wf11 : Cond.fieldLink RX4 11 (TX4 0).1 (TX4 0).2.1 (TX4 0).2.2.1 ∈ wsX4_at := by decide +kernel
  have hinX4 : ∀ w ∈ u_ws RX4 TX4 10, w ∈ wsX4_at := by decide +kernel
  have wf63 : Cond.fieldLink RX4 63 (TX3 0).1 (TX3 0).2.1 (TX3 0).2.2.1 ∈ wsX4_at := by decide +kernel
  have hinX3 : ∀ w ∈ u_ws RX3 TX3 2, w ∈ wsX4_at := by decide +kernel
  have wf74 : Cond.fieldLink RX4 74 (TX4 7).1 (TX4 7).2.1 (TX4 7).2.2.1 ∈ wsX4_at := by decide +kernel
  refine v_lv (lv' := [(0, .ref (a (0))), (1, .int (iI (r))), (2, .int (iI (i)))]) rfl ?_
  refine v_iload_n C 1 dX4_at_0 rfl ?_
  refine v_bipush C dX4_at_1 (by decide) ?_
  refine v_cS_i C (As := [.int (iI (r)), .int (iI (6))]) (rest := []) (c_X4_isNone l D yc t1 t2 A (cw a yc) g r 6 (by omega) (by omega)) (va_cwS 2 C.hts gX4_at_X4_isNone rfl rfl rfl (by decide +kernel) ⟨by decide, by decide⟩) rfl rfl (Nat.le_of_ble_eq_true rfl) dX4_at_3 ?_
  intro r9 g9 h9
  rw [h9.1, h9.2]
  clear h9 g9 r9
  try dsimp only
  refine v_ifb_eq (tgt := 11) C dX4_at_6 (by decide) (fun c6 => ?_) (fun c6 => ?_)
  · skip
    have hs := HC.sz (r := r) (by omega) (by omega)
    have hl := rl40 (r := r) (by omega)
    refine v_aload_n C 0 dX4_at_11 rfl ?_
    refine v_getf C (by omega) (by omega) ct_cow rfl 0 (by decide) wf11 hinX4 rfl dX4_at_12 ?_
    refine v_iload_n C 1 dX4_at_15 rfl ?_
    refine v_aaload (f := fun j => 6 + j) C (by omega) (by omega) 4 rfl ct_rowsA (by omega) (by omega) (by decide) dX4_at_16 ?_
    refine v_astore_n (lv' := [(3, .ref (a (6 + r))), (0, .ref (a (0))), (1, .int (iI (r))), (2, .int (iI (i)))]) C dX4_at_17 (by decide) rfl ?_
    refine v_aload_n C 0 dX4_at_18 rfl ?_
    refine v_cV_i C (As := []) (rest := []) (c_X3_isMissing l D yc t1 t2 a A g r (by omega) (by omega)) (cwV 0 C.hts gX4_at_X3_isMissing rfl rfl rfl (by decide +kernel) ⟨by decide, by decide⟩) (fun H hP => va_recv C.hK hP (ci := 3) (q0 := (6 + r : Int).toNat) rfl (wo_is (by omega) (by omega) (ct_row (by omega) (by omega)))) rfl rfl (Nat.le_of_ble_eq_true rfl) dX4_at_19 ?_
    intro r9 g9 h9
    rw [h9.1, h9.2]
    clear h9 g9 r9
    try dsimp only
    refine v_ifb_eq (tgt := 31) C dX4_at_22 (by decide) (fun c22 => ?_) (fun c22 => ?_)
    · skip
      refine v_aload_n C 0 dX4_at_31 rfl ?_
      refine v_iload_n C 3 dX4_at_32 rfl ?_
      refine v_cV_i C (As := [.int (iI (i))]) (rest := []) (c_X3_has l D yc t1 t2 a A g r i (by omega) (by omega) (by omega)) (cwV 1 C.hts gX4_at_X3_has rfl rfl rfl (by decide +kernel) ⟨by decide, by decide⟩) (fun H hP => va_recv C.hK hP (ci := 3) (q0 := (6 + r : Int).toNat) rfl (wo_is (by omega) (by omega) (ct_row (by omega) (by omega)))) rfl rfl (Nat.le_of_ble_eq_true rfl) dX4_at_33 ?_
      intro r9 g9 h9
      rw [h9.1, h9.2]
      clear h9 g9 r9
      try dsimp only
      refine v_ifb_ne (tgt := 45) C dX4_at_36 (by decide) (fun c36 => ?_) (fun c36 => ?_)
      · skip
        refine v_aload_n C 1 dX4_at_45 rfl ?_
        refine v_aload_n C 0 dX4_at_46 rfl ?_
        refine v_getf C (by omega) (by omega) (ct_row (by omega) (by omega)) rfl 0 (by decide) wf63 hinX3 rfl dX4_at_47 ?_
        refine v_iload_n C 3 dX4_at_50 rfl ?_
        refine v_iaload C (by omega) (by omega) (ct_places (by omega) (by omega)) (by omega) (by omega) (by unfold rlen; split <;> decide) dX4_at_51 ?_
        refine v_puti C (cta_L a yc) (by omega) (by omega) ct_cow rfl 7 (by decide) wf74 hinX4 tyX4 tyX4_ok nmX4 rfl (by decide +kernel) (by simp) cs_cow_7 dX4_at_52 ?_
        refine v_g (g' := (mu g (0) (7) (g (16 + r) (i)))) rfl ?_
        refine v_iconst C dX4_at_55 ?_
        exact v_ret_i C rfl dX4_at_56 ⟨(by repeat (first | rfl | rw [if_pos (by omega)] | rw [if_neg (by omega)])), (by repeat (first | rfl | rw [if_pos (by omega)] | rw [if_neg (by omega)]))⟩
      · skip
        refine v_aload_n C 1 dX4_at_39 rfl ?_
        refine v_iconst C dX4_at_40 ?_
        refine v_cV_i C (As := [.int (iI (2))]) (rest := []) (c_X4_refuse l D yc t1 t2 a A g 2 (by omega)) (cwV 1 C.hts gX4_at_X4_refuse rfl rfl rfl (by decide +kernel) ⟨by decide, by decide⟩) (fun H hP => va_recv C.hK hP (ci := 4) (q0 := (0 : Int).toNat) rfl (wo_is (by omega) (by omega) ct_cow)) rfl rfl (Nat.le_of_ble_eq_true rfl) dX4_at_41 ?_
        intro r9 g9 h9
        rw [h9.1, h9.2]
        clear h9 g9 r9
        try dsimp only
        exact v_ret_i C rfl dX4_at_44 ⟨(by repeat (first | rfl | rw [if_pos (by omega)] | rw [if_neg (by omega)])), (by repeat (first | rfl | rw [if_pos (by omega)] | rw [if_neg (by omega)]))⟩
    · skip
      refine v_aload_n C 1 dX4_at_25 rfl ?_
      refine v_iconst C dX4_at_26 ?_
      refine v_cV_i C (As := [.int (iI (1))]) (rest := []) (c_X4_refuse l D yc t1 t2 a A g 1 (by omega)) (cwV 1 C.hts gX4_at_X4_refuse rfl rfl rfl (by decide +kernel) ⟨by decide, by decide⟩) (fun H hP => va_recv C.hK hP (ci := 4) (q0 := (0 : Int).toNat) rfl (wo_is (by omega) (by omega) ct_cow)) rfl rfl (Nat.le_of_ble_eq_true rfl) dX4_at_27 ?_
      intro r9 g9 h9
      rw [h9.1, h9.2]
      clear h9 g9 r9
      try dsimp only
      exact v_ret_i C rfl dX4_at_30 ⟨(by repeat (first | rfl | rw [if_pos (by omega)] | rw [if_neg (by omega)])), (by repeat (first | rfl | rw [if_pos (by omega)] | rw [if_neg (by omega)]))⟩
  · skip
    refine v_iconst C dX4_at_9 ?_
    exact v_ret_i C rfl dX4_at_10 ⟨(by repeat (first | rfl | rw [if_pos (by omega)] | rw [if_neg (by omega)])), (by repeat (first | rfl | rw [if_pos (by omega)] | rw [if_neg (by omega)]))⟩

set_option maxRecDepth 100000 in
set_option maxHeartbeats 4000000 in
theorem c_X4_tear (l : Launch) (D : va_G) (yc : Nat → ClassId) (t1 t2 : Nat) (a : Int → Nat) (A : Nat → Prop) (g : Mm) (r : Int) (hr : R32 r) (HC : CI g) : Ci l yX4_tear wsX4_tear { frames := 2, cells := 0, slots := 0, locals := 42 } D yc t1 t2 A (cw a yc) [.ref (a (0)), .int (iI (r))] g (fun r9 g' => r9 = (iI (if r < 0 ∨ 5 < r then -1 else if g (6 + r) 1 < 0 then -3 else 1)) ∧ g' = (if r < 0 ∨ 5 < r then g else if g (6 + r) 1 < 0 then fnC g 1 else mu g (6 + r) 1 (-1))) := by
  refine start_i (cc := cX4_tear) (nL := 2) (ret := (some .int)) (own := RX4) (by decide +kernel) rfl rfl (Nat.le_of_ble_eq_true rfl) ?_
  intro p e s m9 below meth c9 C
  have wf11 : Cond.fieldLink RX4 11 (TX4 0).1 (TX4 0).2.1 (TX4 0).2.2.1 ∈ wsX4_tear := by decide +kernel
  have hinX4 : ∀ w ∈ u_ws RX4 TX4 10, w ∈ wsX4_tear := by decide +kernel
  have wf78 : Cond.fieldLink RX4 78 (TX3 1).1 (TX3 1).2.1 (TX3 1).2.2.1 ∈ wsX4_tear := by decide +kernel
  have hinX3 : ∀ w ∈ u_ws RX3 TX3 2, w ∈ wsX4_tear := by decide +kernel
  refine v_lv (lv' := [(0, .ref (a (0))), (1, .int (iI (r)))]) rfl ?_
  refine v_iload_n C 1 dX4_tear_0 rfl ?_
  refine v_bipush C dX4_tear_1 (by decide) ?_
  refine v_cS_i C (As := [.int (iI (r)), .int (iI (6))]) (rest := []) (c_X4_isNone l D yc t1 t2 A (cw a yc) g r 6 (by omega) (by omega)) (va_cwS 2 C.hts gX4_tear_X4_isNone rfl rfl rfl (by decide +kernel) ⟨by decide, by decide⟩) rfl rfl (Nat.le_of_ble_eq_true rfl) dX4_tear_3 ?_
  intro r9 g9 h9
  rw [h9.1, h9.2]
  clear h9 g9 r9
  try dsimp only
  refine v_ifb_eq (tgt := 11) C dX4_tear_6 (by decide) (fun c6 => ?_) (fun c6 => ?_)
  · skip
    have hs := HC.sz (r := r) (by omega) (by omega)
    have hl := rl40 (r := r) (by omega)
    refine v_aload_n C 0 dX4_tear_11 rfl ?_
    refine v_getf C (by omega) (by omega) ct_cow rfl 0 (by decide) wf11 hinX4 rfl dX4_tear_12 ?_
    refine v_iload_n C 1 dX4_tear_15 rfl ?_
    refine v_aaload (f := fun j => 6 + j) C (by omega) (by omega) 4 rfl ct_rowsA (by omega) (by omega) (by decide) dX4_tear_16 ?_
    refine v_cV_i C (As := []) (rest := []) (c_X3_isMissing l D yc t1 t2 a A g r (by omega) (by omega)) (cwV 0 C.hts gX4_tear_X3_isMissing rfl rfl rfl (by decide +kernel) ⟨by decide, by decide⟩) (fun H hP => va_recv C.hK hP (ci := 3) (q0 := (6 + r : Int).toNat) rfl (wo_is (by omega) (by omega) (ct_row (by omega) (by omega)))) rfl rfl (Nat.le_of_ble_eq_true rfl) dX4_tear_17 ?_
    intro r9 g9 h9
    rw [h9.1, h9.2]
    clear h9 g9 r9
    try dsimp only
    refine v_ifb_eq (tgt := 29) C dX4_tear_20 (by decide) (fun c20 => ?_) (fun c20 => ?_)
    · skip
      refine v_aload_n C 0 dX4_tear_29 rfl ?_
      refine v_getf C (by omega) (by omega) ct_cow rfl 0 (by decide) wf11 hinX4 rfl dX4_tear_30 ?_
      refine v_iload_n C 1 dX4_tear_33 rfl ?_
      refine v_aaload (f := fun j => 6 + j) C (by omega) (by omega) 4 rfl ct_rowsA (by omega) (by omega) (by decide) dX4_tear_34 ?_
      refine v_iconst C dX4_tear_35 ?_
      refine v_puti C (cta_L a yc) (by omega) (by omega) (ct_row (by omega) (by omega)) rfl 1 (by decide) wf78 hinX3 tyX3 tyX3_ok nmX3 rfl (by decide +kernel) (by simp) (cs_row_1 (by omega) (by omega)) dX4_tear_36 ?_
      refine v_g (g' := (mu g (6 + r) (1) (-1))) rfl ?_
      refine v_iconst C dX4_tear_39 ?_
      exact v_ret_i C rfl dX4_tear_40 ⟨(by repeat (first | rfl | rw [if_pos (by omega)] | rw [if_neg (by omega)])), (by repeat (first | rfl | rw [if_pos (by omega)] | rw [if_neg (by omega)]))⟩
    · skip
      refine v_aload_n C 0 dX4_tear_23 rfl ?_
      refine v_iconst C dX4_tear_24 ?_
      refine v_cV_i C (As := [.int (iI (1))]) (rest := []) (c_X4_refuse l D yc t1 t2 a A g 1 (by omega)) (cwV 1 C.hts gX4_tear_X4_refuse rfl rfl rfl (by decide +kernel) ⟨by decide, by decide⟩) (fun H hP => va_recv C.hK hP (ci := 4) (q0 := (0 : Int).toNat) rfl (wo_is (by omega) (by omega) ct_cow)) rfl rfl (Nat.le_of_ble_eq_true rfl) dX4_tear_25 ?_
      intro r9 g9 h9
      rw [h9.1, h9.2]
      clear h9 g9 r9
      try dsimp only
      exact v_ret_i C rfl dX4_tear_28 ⟨(by repeat (first | rfl | rw [if_pos (by omega)] | rw [if_neg (by omega)])), (by repeat (first | rfl | rw [if_pos (by omega)] | rw [if_neg (by omega)]))⟩
  · skip
    refine v_iconst C dX4_tear_9 ?_
    exact v_ret_i C rfl dX4_tear_10 ⟨(by repeat (first | rfl | rw [if_pos (by omega)] | rw [if_neg (by omega)])), (by repeat (first | rfl | rw [if_pos (by omega)] | rw [if_neg (by omega)]))⟩

set_option maxRecDepth 100000 in
set_option maxHeartbeats 4000000 in
theorem c_X4_copy (l : Launch) (D : va_G) (yc : Nat → ClassId) (t1 t2 : Nat) (a : Int → Nat) (A : Nat → Prop) (g : Mm) (r i u j n : Int) (hr : R32 r) (hi : R32 i) (hu : R32 u) (hj : R32 j) (hn : R32 n) (HC : CI g) : Ci l yX4_copy wsX4_copy { frames := 2, cells := 0, slots := 0, locals := 42 } D yc t1 t2 A (cw a yc) [.ref (a (0)), .int (iI (r)), .int (iI (i)), .int (iI (u)), .int (iI (j)), .int (iI (n))] g (fun r9 g' => r9 = (iI (if (r < 0 ∨ 5 < r) ∨ (u < 0 ∨ 5 < u) then -1 else if n < 0 then -3 else if g (6 + r) 1 < 0 ∨ g (6 + u) 1 < 0 then -3 else if i < 0 ∨ j < 0 ∨ g (6 + r) 1 < i + n ∨ g (6 + u) 1 < j + n then -3 else 1)) ∧ g' = (if (r < 0 ∨ 5 < r) ∨ (u < 0 ∨ 5 < u) then g else if n < 0 then fnC g 5 else if g (6 + r) 1 < 0 ∨ g (6 + u) 1 < 0 then fnC g 1 else if i < 0 ∨ j < 0 ∨ g (6 + r) 1 < i + n ∨ g (6 + u) 1 < j + n then fnC g 2 else mcp g (16 + r) i (16 + u) j n)) := by
  refine start_i (cc := cX4_copy) (nL := 6) (ret := (some .int)) (own := RX4) (by decide +kernel) rfl rfl (Nat.le_of_ble_eq_true rfl) ?_
  intro p e s m9 below meth c9 C
  have wf11 : Cond.fieldLink RX4 11 (TX4 0).1 (TX4 0).2.1 (TX4 0).2.2.1 ∈ wsX4_copy := by decide +kernel
  have hinX4 : ∀ w ∈ u_ws RX4 TX4 10, w ∈ wsX4_copy := by decide +kernel
  have wf63 : Cond.fieldLink RX4 63 (TX3 0).1 (TX3 0).2.1 (TX3 0).2.2.1 ∈ wsX4_copy := by decide +kernel
  have hinX3 : ∀ w ∈ u_ws RX3 TX3 2, w ∈ wsX4_copy := by decide +kernel
  have wac84 : Cond.methodLink RX4 84 arraycopyName ∈ wsX4_copy := by decide +kernel
  have wacn : Cond.native arraycopyName ∈ wsX4_copy := by decide +kernel
  have wacs : Cond.static arraycopyName ∈ wsX4_copy := by decide +kernel
  have waci : Cond.initialized "java/lang/System" ∈ wsX4_copy := by decide +kernel
  refine v_lv (lv' := [(0, .ref (a (0))), (1, .int (iI (r))), (2, .int (iI (i))), (3, .int (iI (u))), (4, .int (iI (j))), (5, .int (iI (n)))]) rfl ?_
  refine v_iload_n C 1 dX4_copy_0 rfl ?_
  refine v_bipush C dX4_copy_1 (by decide) ?_
  refine v_cS_i C (As := [.int (iI (r)), .int (iI (6))]) (rest := []) (c_X4_isNone l D yc t1 t2 A (cw a yc) g r 6 (by omega) (by omega)) (va_cwS 2 C.hts gX4_copy_X4_isNone rfl rfl rfl (by decide +kernel) ⟨by decide, by decide⟩) rfl rfl (Nat.le_of_ble_eq_true rfl) dX4_copy_3 ?_
  intro r9 g9 h9
  rw [h9.1, h9.2]
  clear h9 g9 r9
  try dsimp only
  refine v_ifb_ne (tgt := 18) C dX4_copy_6 (by decide) (fun c6 => ?_) (fun c6 => ?_)
  · skip
    refine v_iconst C dX4_copy_18 ?_
    exact v_ret_i C rfl dX4_copy_19 ⟨(by repeat (first | rfl | rw [if_pos (by omega)] | rw [if_neg (by omega)])), (by repeat (first | rfl | rw [if_pos (by omega)] | rw [if_neg (by omega)]))⟩
  · skip
    refine v_iload_n C 3 dX4_copy_9 rfl ?_
    refine v_bipush C dX4_copy_10 (by decide) ?_
    refine v_cS_i C (As := [.int (iI (u)), .int (iI (6))]) (rest := []) (c_X4_isNone l D yc t1 t2 A (cw a yc) g u 6 (by omega) (by omega)) (va_cwS 2 C.hts gX4_copy_X4_isNone rfl rfl rfl (by decide +kernel) ⟨by decide, by decide⟩) rfl rfl (Nat.le_of_ble_eq_true rfl) dX4_copy_12 ?_
    intro r9 g9 h9
    rw [h9.1, h9.2]
    clear h9 g9 r9
    try dsimp only
    refine v_ifb_eq (tgt := 20) C dX4_copy_15 (by decide) (fun c15 => ?_) (fun c15 => ?_)
    · skip
      have hs := HC.sz (r := r) (by omega) (by omega)
      have hs2 := HC.sz (r := u) (by omega) (by omega)
      have hl := rl40 (r := r) (by omega)
      have hl2 := rl40 (r := u) (by omega)
      refine v_iload C 5 dX4_copy_20 rfl ?_
      refine v_if_ge (tgt := 31) C dX4_copy_22 (by decide) (by omega) (fun c22 => ?_) (fun c22 => ?_)
      · skip
        refine v_aload_n C 0 dX4_copy_31 rfl ?_
        refine v_getf C (by omega) (by omega) ct_cow rfl 0 (by decide) wf11 hinX4 rfl dX4_copy_32 ?_
        refine v_iload_n C 1 dX4_copy_35 rfl ?_
        refine v_aaload (f := fun j => 6 + j) C (by omega) (by omega) 4 rfl ct_rowsA (by omega) (by omega) (by decide) dX4_copy_36 ?_
        refine v_cV_i C (As := []) (rest := []) (c_X3_isMissing l D yc t1 t2 a A g r (by omega) (by omega)) (cwV 0 C.hts gX4_copy_X3_isMissing rfl rfl rfl (by decide +kernel) ⟨by decide, by decide⟩) (fun H hP => va_recv C.hK hP (ci := 3) (q0 := (6 + r : Int).toNat) rfl (wo_is (by omega) (by omega) (ct_row (by omega) (by omega)))) rfl rfl (Nat.le_of_ble_eq_true rfl) dX4_copy_37 ?_
        intro r9 g9 h9
        rw [h9.1, h9.2]
        clear h9 g9 r9
        try dsimp only
        refine v_ifb_ne (tgt := 55) C dX4_copy_40 (by decide) (fun c40 => ?_) (fun c40 => ?_)
        · skip
          refine v_aload_n C 0 dX4_copy_55 rfl ?_
          refine v_iconst C dX4_copy_56 ?_
          refine v_cV_i C (As := [.int (iI (1))]) (rest := []) (c_X4_refuse l D yc t1 t2 a A g 1 (by omega)) (cwV 1 C.hts gX4_copy_X4_refuse rfl rfl rfl (by decide +kernel) ⟨by decide, by decide⟩) (fun H hP => va_recv C.hK hP (ci := 4) (q0 := (0 : Int).toNat) rfl (wo_is (by omega) (by omega) ct_cow)) rfl rfl (Nat.le_of_ble_eq_true rfl) dX4_copy_57 ?_
          intro r9 g9 h9
          rw [h9.1, h9.2]
          clear h9 g9 r9
          try dsimp only
          exact v_ret_i C rfl dX4_copy_60 ⟨(by repeat (first | rfl | rw [if_pos (by omega)] | rw [if_neg (by omega)])), (by repeat (first | rfl | rw [if_pos (by omega)] | rw [if_neg (by omega)]))⟩
        · skip
          refine v_aload_n C 0 dX4_copy_43 rfl ?_
          refine v_getf C (by omega) (by omega) ct_cow rfl 0 (by decide) wf11 hinX4 rfl dX4_copy_44 ?_
          refine v_iload_n C 3 dX4_copy_47 rfl ?_
          refine v_aaload (f := fun j => 6 + j) C (by omega) (by omega) 4 rfl ct_rowsA (by omega) (by omega) (by decide) dX4_copy_48 ?_
          refine v_cV_i C (As := []) (rest := []) (c_X3_isMissing l D yc t1 t2 a A g u (by omega) (by omega)) (cwV 0 C.hts gX4_copy_X3_isMissing rfl rfl rfl (by decide +kernel) ⟨by decide, by decide⟩) (fun H hP => va_recv C.hK hP (ci := 3) (q0 := (6 + u : Int).toNat) rfl (wo_is (by omega) (by omega) (ct_row (by omega) (by omega)))) rfl rfl (Nat.le_of_ble_eq_true rfl) dX4_copy_49 ?_
          intro r9 g9 h9
          rw [h9.1, h9.2]
          clear h9 g9 r9
          try dsimp only
          refine v_ifb_eq (tgt := 61) C dX4_copy_52 (by decide) (fun c52 => ?_) (fun c52 => ?_)
          · skip
            refine v_aload_n C 0 dX4_copy_61 rfl ?_
            refine v_getf C (by omega) (by omega) ct_cow rfl 0 (by decide) wf11 hinX4 rfl dX4_copy_62 ?_
            refine v_iload_n C 1 dX4_copy_65 rfl ?_
            refine v_aaload (f := fun j => 6 + j) C (by omega) (by omega) 4 rfl ct_rowsA (by omega) (by omega) (by decide) dX4_copy_66 ?_
            refine v_iload_n C 2 dX4_copy_67 rfl ?_
            refine v_iload C 5 dX4_copy_68 rfl ?_
            refine v_cV_i C (As := [.int (iI (i)), .int (iI (n))]) (rest := []) (c_X3_hasRun l D yc t1 t2 a A g r i n (by omega) (by omega) (by omega) (by omega)) (cwV 2 C.hts gX4_copy_X3_hasRun rfl rfl rfl (by decide +kernel) ⟨by decide, by decide⟩) (fun H hP => va_recv C.hK hP (ci := 3) (q0 := (6 + r : Int).toNat) rfl (wo_is (by omega) (by omega) (ct_row (by omega) (by omega)))) rfl rfl (Nat.le_of_ble_eq_true rfl) dX4_copy_70 ?_
            intro r9 g9 h9
            rw [h9.1, h9.2]
            clear h9 g9 r9
            try dsimp only
            refine v_ifb_eq (tgt := 92) C dX4_copy_73 (by decide) (fun c73 => ?_) (fun c73 => ?_)
            · skip
              refine v_aload_n C 0 dX4_copy_92 rfl ?_
              refine v_iconst C dX4_copy_93 ?_
              refine v_cV_i C (As := [.int (iI (2))]) (rest := []) (c_X4_refuse l D yc t1 t2 a A g 2 (by omega)) (cwV 1 C.hts gX4_copy_X4_refuse rfl rfl rfl (by decide +kernel) ⟨by decide, by decide⟩) (fun H hP => va_recv C.hK hP (ci := 4) (q0 := (0 : Int).toNat) rfl (wo_is (by omega) (by omega) ct_cow)) rfl rfl (Nat.le_of_ble_eq_true rfl) dX4_copy_94 ?_
              intro r9 g9 h9
              rw [h9.1, h9.2]
              clear h9 g9 r9
              try dsimp only
              exact v_ret_i C rfl dX4_copy_97 ⟨(by repeat (first | rfl | rw [if_pos (by omega)] | rw [if_neg (by omega)])), (by repeat (first | rfl | rw [if_pos (by omega)] | rw [if_neg (by omega)]))⟩
            · skip
              refine v_aload_n C 0 dX4_copy_76 rfl ?_
              refine v_getf C (by omega) (by omega) ct_cow rfl 0 (by decide) wf11 hinX4 rfl dX4_copy_77 ?_
              refine v_iload_n C 3 dX4_copy_80 rfl ?_
              refine v_aaload (f := fun j => 6 + j) C (by omega) (by omega) 4 rfl ct_rowsA (by omega) (by omega) (by decide) dX4_copy_81 ?_
              refine v_iload C 4 dX4_copy_82 rfl ?_
              refine v_iload C 5 dX4_copy_84 rfl ?_
              refine v_cV_i C (As := [.int (iI (j)), .int (iI (n))]) (rest := []) (c_X3_hasRun l D yc t1 t2 a A g u j n (by omega) (by omega) (by omega) (by omega)) (cwV 2 C.hts gX4_copy_X3_hasRun rfl rfl rfl (by decide +kernel) ⟨by decide, by decide⟩) (fun H hP => va_recv C.hK hP (ci := 3) (q0 := (6 + u : Int).toNat) rfl (wo_is (by omega) (by omega) (ct_row (by omega) (by omega)))) rfl rfl (Nat.le_of_ble_eq_true rfl) dX4_copy_86 ?_
              intro r9 g9 h9
              rw [h9.1, h9.2]
              clear h9 g9 r9
              try dsimp only
              refine v_ifb_ne (tgt := 98) C dX4_copy_89 (by decide) (fun c89 => ?_) (fun c89 => ?_)
              · skip
                refine v_aload_n C 0 dX4_copy_98 rfl ?_
                refine v_getf C (by omega) (by omega) ct_cow rfl 0 (by decide) wf11 hinX4 rfl dX4_copy_99 ?_
                refine v_iload_n C 1 dX4_copy_102 rfl ?_
                refine v_aaload (f := fun j => 6 + j) C (by omega) (by omega) 4 rfl ct_rowsA (by omega) (by omega) (by decide) dX4_copy_103 ?_
                refine v_getf C (by omega) (by omega) (ct_row (by omega) (by omega)) rfl 0 (by decide) wf63 hinX3 rfl dX4_copy_104 ?_
                refine v_iload_n C 2 dX4_copy_107 rfl ?_
                refine v_aload_n C 0 dX4_copy_108 rfl ?_
                refine v_getf C (by omega) (by omega) ct_cow rfl 0 (by decide) wf11 hinX4 rfl dX4_copy_109 ?_
                refine v_iload_n C 3 dX4_copy_112 rfl ?_
                refine v_aaload (f := fun j => 6 + j) C (by omega) (by omega) 4 rfl ct_rowsA (by omega) (by omega) (by decide) dX4_copy_113 ?_
                refine v_getf C (by omega) (by omega) (ct_row (by omega) (by omega)) rfl 0 (by decide) wf63 hinX3 rfl dX4_copy_114 ?_
                refine v_iload C 4 dX4_copy_117 rfl ?_
                refine v_iload C 5 dX4_copy_119 rfl ?_
                refine v_acopy C (cta_L a yc) wac84 wacn wacs waci (by omega) (by omega) (by omega) (by omega) (ct_places (by omega) (by omega)) (ct_places (by omega) (by omega)) (ct_places (by omega) (by omega)).symm (by omega) (by omega) (by omega) (by omega) (by omega) (by unfold rlen; split <;> decide) (by unfold rlen; split <;> decide) (by decide) (Nat.le_of_ble_eq_true rfl) dX4_copy_121 ?_
                refine v_iconst C dX4_copy_124 ?_
                exact v_ret_i C rfl dX4_copy_125 ⟨(by repeat (first | rfl | rw [if_pos (by omega)] | rw [if_neg (by omega)])), (by repeat (first | rfl | rw [if_pos (by omega)] | rw [if_neg (by omega)]))⟩
              · skip
                refine v_aload_n C 0 dX4_copy_92 rfl ?_
                refine v_iconst C dX4_copy_93 ?_
                refine v_cV_i C (As := [.int (iI (2))]) (rest := []) (c_X4_refuse l D yc t1 t2 a A g 2 (by omega)) (cwV 1 C.hts gX4_copy_X4_refuse rfl rfl rfl (by decide +kernel) ⟨by decide, by decide⟩) (fun H hP => va_recv C.hK hP (ci := 4) (q0 := (0 : Int).toNat) rfl (wo_is (by omega) (by omega) ct_cow)) rfl rfl (Nat.le_of_ble_eq_true rfl) dX4_copy_94 ?_
                intro r9 g9 h9
                rw [h9.1, h9.2]
                clear h9 g9 r9
                try dsimp only
                exact v_ret_i C rfl dX4_copy_97 ⟨(by repeat (first | rfl | rw [if_pos (by omega)] | rw [if_neg (by omega)])), (by repeat (first | rfl | rw [if_pos (by omega)] | rw [if_neg (by omega)]))⟩
          · skip
            refine v_aload_n C 0 dX4_copy_55 rfl ?_
            refine v_iconst C dX4_copy_56 ?_
            refine v_cV_i C (As := [.int (iI (1))]) (rest := []) (c_X4_refuse l D yc t1 t2 a A g 1 (by omega)) (cwV 1 C.hts gX4_copy_X4_refuse rfl rfl rfl (by decide +kernel) ⟨by decide, by decide⟩) (fun H hP => va_recv C.hK hP (ci := 4) (q0 := (0 : Int).toNat) rfl (wo_is (by omega) (by omega) ct_cow)) rfl rfl (Nat.le_of_ble_eq_true rfl) dX4_copy_57 ?_
            intro r9 g9 h9
            rw [h9.1, h9.2]
            clear h9 g9 r9
            try dsimp only
            exact v_ret_i C rfl dX4_copy_60 ⟨(by repeat (first | rfl | rw [if_pos (by omega)] | rw [if_neg (by omega)])), (by repeat (first | rfl | rw [if_pos (by omega)] | rw [if_neg (by omega)]))⟩
      · skip
        refine v_aload_n C 0 dX4_copy_25 rfl ?_
        refine v_iconst C dX4_copy_26 ?_
        refine v_cV_i C (As := [.int (iI (5))]) (rest := []) (c_X4_refuse l D yc t1 t2 a A g 5 (by omega)) (cwV 1 C.hts gX4_copy_X4_refuse rfl rfl rfl (by decide +kernel) ⟨by decide, by decide⟩) (fun H hP => va_recv C.hK hP (ci := 4) (q0 := (0 : Int).toNat) rfl (wo_is (by omega) (by omega) ct_cow)) rfl rfl (Nat.le_of_ble_eq_true rfl) dX4_copy_27 ?_
        intro r9 g9 h9
        rw [h9.1, h9.2]
        clear h9 g9 r9
        try dsimp only
        exact v_ret_i C rfl dX4_copy_30 ⟨(by repeat (first | rfl | rw [if_pos (by omega)] | rw [if_neg (by omega)])), (by repeat (first | rfl | rw [if_pos (by omega)] | rw [if_neg (by omega)]))⟩
    · skip
      refine v_iconst C dX4_copy_18 ?_
      exact v_ret_i C rfl dX4_copy_19 ⟨(by repeat (first | rfl | rw [if_pos (by omega)] | rw [if_neg (by omega)])), (by repeat (first | rfl | rw [if_pos (by omega)] | rw [if_neg (by omega)]))⟩

set_option maxRecDepth 100000 in
set_option maxHeartbeats 4000000 in
theorem c_X4_mean (l : Launch) (D : va_G) (yc : Nat → ClassId) (t1 t2 : Nat) (a : Int → Nat) (A : Nat → Prop) (g : Mm) (r : Int) (hr : R32 r) (HC : CI g) : Ci l yX4_mean wsX4_mean { frames := 2, cells := 0, slots := 0, locals := 42 } D yc t1 t2 A (cw a yc) [.ref (a (0)), .int (iI (r))] g (fun r9 g' => r9 = (iI (if r < 0 ∨ 5 < r then -1 else if g (6 + r) 1 < 0 then -3 else if g (6 + r) 1 = 0 then -3 else 1)) ∧ g' = (if r < 0 ∨ 5 < r then g else if g (6 + r) 1 < 0 then fnC g 1 else if g (6 + r) 1 = 0 then fnC g 4 else mu g 0 7 (mnZ (sI (fun j => g (16 + r) j) (g (6 + r) 1)) (g (6 + r) 1)))) := by
  refine start_i (cc := cX4_mean) (nL := 3) (ret := (some .int)) (own := RX4) (by decide +kernel) rfl rfl (Nat.le_of_ble_eq_true rfl) ?_
  intro p e s m9 below meth c9 C
  have wf11 : Cond.fieldLink RX4 11 (TX4 0).1 (TX4 0).2.1 (TX4 0).2.2.1 ∈ wsX4_mean := by decide +kernel
  have hinX4 : ∀ w ∈ u_ws RX4 TX4 10, w ∈ wsX4_mean := by decide +kernel
  have wf78 : Cond.fieldLink RX4 78 (TX3 1).1 (TX3 1).2.1 (TX3 1).2.2.1 ∈ wsX4_mean := by decide +kernel
  have hinX3 : ∀ w ∈ u_ws RX3 TX3 2, w ∈ wsX4_mean := by decide +kernel
  have wf74 : Cond.fieldLink RX4 74 (TX4 7).1 (TX4 7).2.1 (TX4 7).2.2.1 ∈ wsX4_mean := by decide +kernel
  refine v_lv (lv' := [(0, .ref (a (0))), (1, .int (iI (r)))]) rfl ?_
  refine v_iload_n C 1 dX4_mean_0 rfl ?_
  refine v_bipush C dX4_mean_1 (by decide) ?_
  refine v_cS_i C (As := [.int (iI (r)), .int (iI (6))]) (rest := []) (c_X4_isNone l D yc t1 t2 A (cw a yc) g r 6 (by omega) (by omega)) (va_cwS 2 C.hts gX4_mean_X4_isNone rfl rfl rfl (by decide +kernel) ⟨by decide, by decide⟩) rfl rfl (Nat.le_of_ble_eq_true rfl) dX4_mean_3 ?_
  intro r9 g9 h9
  rw [h9.1, h9.2]
  clear h9 g9 r9
  try dsimp only
  refine v_ifb_eq (tgt := 11) C dX4_mean_6 (by decide) (fun c6 => ?_) (fun c6 => ?_)
  · skip
    have hs := HC.sz (r := r) (by omega) (by omega)
    have hl := rl40 (r := r) (by omega)
    refine v_aload_n C 0 dX4_mean_11 rfl ?_
    refine v_getf C (by omega) (by omega) ct_cow rfl 0 (by decide) wf11 hinX4 rfl dX4_mean_12 ?_
    refine v_iload_n C 1 dX4_mean_15 rfl ?_
    refine v_aaload (f := fun j => 6 + j) C (by omega) (by omega) 4 rfl ct_rowsA (by omega) (by omega) (by decide) dX4_mean_16 ?_
    refine v_astore_n (lv' := [(2, .ref (a (6 + r))), (0, .ref (a (0))), (1, .int (iI (r)))]) C dX4_mean_17 (by decide) rfl ?_
    refine v_aload_n C 0 dX4_mean_18 rfl ?_
    refine v_cV_i C (As := []) (rest := []) (c_X3_isMissing l D yc t1 t2 a A g r (by omega) (by omega)) (cwV 0 C.hts gX4_mean_X3_isMissing rfl rfl rfl (by decide +kernel) ⟨by decide, by decide⟩) (fun H hP => va_recv C.hK hP (ci := 3) (q0 := (6 + r : Int).toNat) rfl (wo_is (by omega) (by omega) (ct_row (by omega) (by omega)))) rfl rfl (Nat.le_of_ble_eq_true rfl) dX4_mean_19 ?_
    intro r9 g9 h9
    rw [h9.1, h9.2]
    clear h9 g9 r9
    try dsimp only
    refine v_ifb_eq (tgt := 31) C dX4_mean_22 (by decide) (fun c22 => ?_) (fun c22 => ?_)
    · skip
      refine v_aload_n C 0 dX4_mean_31 rfl ?_
      refine v_getf C (by omega) (by omega) (ct_row (by omega) (by omega)) rfl 1 (by decide) wf78 hinX3 rfl dX4_mean_32 ?_
      refine v_if_ne (tgt := 44) C dX4_mean_35 (by decide) (by omega) (fun c35 => ?_) (fun c35 => ?_)
      · skip
        refine v_aload_n C 1 dX4_mean_44 rfl ?_
        refine v_aload_n C 0 dX4_mean_45 rfl ?_
        refine v_cV_l C (As := []) (rest := [.ref (a (0))]) (c_X3_total l D yc t1 t2 a A g r (by omega) (by omega) (fun j => HC.it (by omega) (by omega) j)) (cwV 0 C.hts gX4_mean_X3_total rfl rfl rfl (by decide +kernel) ⟨by decide, by decide⟩) (fun H hP => va_recv C.hK hP (ci := 3) (q0 := (6 + r : Int).toNat) rfl (wo_is (by omega) (by omega) (ct_row (by omega) (by omega)))) rfl rfl (Nat.le_of_ble_eq_true rfl) dX4_mean_46 ?_
        intro r9 g9 h9
        rw [h9.1, h9.2]
        clear h9 g9 r9
        try dsimp only
        refine v_aload_n C 0 dX4_mean_49 rfl ?_
        refine v_getf C (by omega) (by omega) (ct_row (by omega) (by omega)) rfl 1 (by decide) wf78 hinX3 rfl dX4_mean_50 ?_
        refine v_i2l C dX4_mean_53 (by omega) ?_
        refine v_ldivR (z := (lI (sI (fun j => g (16 + r) j) (g (6 + r) 1)) / lI (g (6 + r) 1))) C dX4_mean_54 (lI_ne (by omega) (by omega)) rfl ?_
        refine v_l2iR (z := (iI (mnZ (sI (fun j => g (16 + r) j) (g (6 + r) 1)) (g (6 + r) 1)))) C dX4_mean_55 (iI_of _).symm ?_
        refine v_puti C (cta_L a yc) (by omega) (by omega) ct_cow rfl 7 (by decide) wf74 hinX4 tyX4 tyX4_ok nmX4 rfl (by decide +kernel) (by simp) cs_cow_7 dX4_mean_56 ?_
        refine v_g (g' := (mu g (0) (7) (mnZ (sI (fun j => g (16 + r) j) (g (6 + r) 1)) (g (6 + r) 1)))) rfl ?_
        refine v_iconst C dX4_mean_59 ?_
        exact v_ret_i C rfl dX4_mean_60 ⟨(by repeat (first | rfl | rw [if_pos (by omega)] | rw [if_neg (by omega)])), (by repeat (first | rfl | rw [if_pos (by omega)] | rw [if_neg (by omega)]))⟩
      · skip
        refine v_aload_n C 1 dX4_mean_38 rfl ?_
        refine v_iconst C dX4_mean_39 ?_
        refine v_cV_i C (As := [.int (iI (4))]) (rest := []) (c_X4_refuse l D yc t1 t2 a A g 4 (by omega)) (cwV 1 C.hts gX4_mean_X4_refuse rfl rfl rfl (by decide +kernel) ⟨by decide, by decide⟩) (fun H hP => va_recv C.hK hP (ci := 4) (q0 := (0 : Int).toNat) rfl (wo_is (by omega) (by omega) ct_cow)) rfl rfl (Nat.le_of_ble_eq_true rfl) dX4_mean_40 ?_
        intro r9 g9 h9
        rw [h9.1, h9.2]
        clear h9 g9 r9
        try dsimp only
        exact v_ret_i C rfl dX4_mean_43 ⟨(by repeat (first | rfl | rw [if_pos (by omega)] | rw [if_neg (by omega)])), (by repeat (first | rfl | rw [if_pos (by omega)] | rw [if_neg (by omega)]))⟩
    · skip
      refine v_aload_n C 1 dX4_mean_25 rfl ?_
      refine v_iconst C dX4_mean_26 ?_
      refine v_cV_i C (As := [.int (iI (1))]) (rest := []) (c_X4_refuse l D yc t1 t2 a A g 1 (by omega)) (cwV 1 C.hts gX4_mean_X4_refuse rfl rfl rfl (by decide +kernel) ⟨by decide, by decide⟩) (fun H hP => va_recv C.hK hP (ci := 4) (q0 := (0 : Int).toNat) rfl (wo_is (by omega) (by omega) ct_cow)) rfl rfl (Nat.le_of_ble_eq_true rfl) dX4_mean_27 ?_
      intro r9 g9 h9
      rw [h9.1, h9.2]
      clear h9 g9 r9
      try dsimp only
      exact v_ret_i C rfl dX4_mean_30 ⟨(by repeat (first | rfl | rw [if_pos (by omega)] | rw [if_neg (by omega)])), (by repeat (first | rfl | rw [if_pos (by omega)] | rw [if_neg (by omega)]))⟩
  · skip
    refine v_iconst C dX4_mean_9 ?_
    exact v_ret_i C rfl dX4_mean_10 ⟨(by repeat (first | rfl | rw [if_pos (by omega)] | rw [if_neg (by omega)])), (by repeat (first | rfl | rw [if_pos (by omega)] | rw [if_neg (by omega)]))⟩

set_option maxRecDepth 100000 in
set_option maxHeartbeats 4000000 in
theorem c_X4_put (l : Launch) (D : va_G) (yc : Nat → ClassId) (t1 t2 : Nat) (a : Int → Nat) (A : Nat → Prop) (g : Mm) (t i v : Int) (ht : R32 t) (hi : R32 i) (HC : CI g) : Ci l yX4_put wsX4_put { frames := 2, cells := 0, slots := 0, locals := 42 } D yc t1 t2 A (cw a yc) [.ref (a (0)), .int (iI (t)), .int (iI (i)), .int (iI (v))] g (fun r9 g' => r9 = (iI (if t < 0 ∨ 3 < t then -1 else if g (6 + (6 + t)) 1 < 0 then -3 else if i < 0 ∨ g (6 + (6 + t)) 1 ≤ i then -3 else g (16 + (6 + t)) i + 1000)) ∧ g' = (if t < 0 ∨ 3 < t then g else if g (6 + (6 + t)) 1 < 0 then fnC g 1 else if i < 0 ∨ g (6 + (6 + t)) 1 ≤ i then fnC g 2 else mu g (16 + (6 + t)) i (i8 v))) := by
  refine start_i (cc := cX4_put) (nL := 6) (ret := (some .int)) (own := RX4) (by decide +kernel) rfl rfl (Nat.le_of_ble_eq_true rfl) ?_
  intro p e s m9 below meth c9 C
  have wf15 : Cond.fieldLink RX4 15 (TX4 1).1 (TX4 1).2.1 (TX4 1).2.2.1 ∈ wsX4_put := by decide +kernel
  have hinX4 : ∀ w ∈ u_ws RX4 TX4 10, w ∈ wsX4_put := by decide +kernel
  have wf63 : Cond.fieldLink RX4 63 (TX3 0).1 (TX3 0).2.1 (TX3 0).2.2.1 ∈ wsX4_put := by decide +kernel
  have hinX3 : ∀ w ∈ u_ws RX3 TX3 2, w ∈ wsX4_put := by decide +kernel
  refine v_lv (lv' := [(0, .ref (a (0))), (1, .int (iI (t))), (2, .int (iI (i))), (3, .int (iI (v)))]) rfl ?_
  refine v_iload_n C 1 dX4_put_0 rfl ?_
  refine v_iconst C dX4_put_1 ?_
  refine v_cS_i C (As := [.int (iI (t)), .int (iI (4))]) (rest := []) (c_X4_isNone l D yc t1 t2 A (cw a yc) g t 4 (by omega) (by omega)) (va_cwS 2 C.hts gX4_put_X4_isNone rfl rfl rfl (by decide +kernel) ⟨by decide, by decide⟩) rfl rfl (Nat.le_of_ble_eq_true rfl) dX4_put_2 ?_
  intro r9 g9 h9
  rw [h9.1, h9.2]
  clear h9 g9 r9
  try dsimp only
  refine v_ifb_eq (tgt := 10) C dX4_put_5 (by decide) (fun c5 => ?_) (fun c5 => ?_)
  · skip
    have hs := HC.ln (t := t) (by omega) (by omega)
    have hl := rl60 (r := 6 + t) (by omega)
    refine v_aload_n C 0 dX4_put_10 rfl ?_
    refine v_getf C (by omega) (by omega) ct_cow rfl 1 (by decide) wf15 hinX4 rfl dX4_put_11 ?_
    refine v_iload_n C 1 dX4_put_14 rfl ?_
    refine v_aaload (f := fun j => 6 + (6 + j)) C (by omega) (by omega) 4 rfl ct_textsA (by omega) (by omega) (by decide) dX4_put_15 ?_
    refine v_astore (lv' := [(4, .ref (a (6 + (6 + t)))), (0, .ref (a (0))), (1, .int (iI (t))), (2, .int (iI (i))), (3, .int (iI (v)))]) C dX4_put_16 (by decide) rfl ?_
    refine v_aload C 0 dX4_put_18 rfl ?_
    refine v_cV_i C (As := []) (rest := []) (c_X3_isMissing l D yc t1 t2 a A g (6 + t) (by omega) (by omega)) (cwV 0 C.hts gX4_put_X3_isMissing rfl rfl rfl (by decide +kernel) ⟨by decide, by decide⟩) (fun H hP => va_recv C.hK hP (ci := 3) (q0 := (6 + (6 + t) : Int).toNat) rfl (wo_is (by omega) (by omega) (ct_row (by omega) (by omega)))) rfl rfl (Nat.le_of_ble_eq_true rfl) dX4_put_20 ?_
    intro r9 g9 h9
    rw [h9.1, h9.2]
    clear h9 g9 r9
    try dsimp only
    refine v_ifb_eq (tgt := 32) C dX4_put_23 (by decide) (fun c23 => ?_) (fun c23 => ?_)
    · skip
      refine v_aload C 0 dX4_put_32 rfl ?_
      refine v_iload_n C 3 dX4_put_34 rfl ?_
      refine v_cV_i C (As := [.int (iI (i))]) (rest := []) (c_X3_has l D yc t1 t2 a A g (6 + t) i (by omega) (by omega) (by omega)) (cwV 1 C.hts gX4_put_X3_has rfl rfl rfl (by decide +kernel) ⟨by decide, by decide⟩) (fun H hP => va_recv C.hK hP (ci := 3) (q0 := (6 + (6 + t) : Int).toNat) rfl (wo_is (by omega) (by omega) (ct_row (by omega) (by omega)))) rfl rfl (Nat.le_of_ble_eq_true rfl) dX4_put_35 ?_
      intro r9 g9 h9
      rw [h9.1, h9.2]
      clear h9 g9 r9
      try dsimp only
      refine v_ifb_ne (tgt := 47) C dX4_put_38 (by decide) (fun c38 => ?_) (fun c38 => ?_)
      · skip
        refine v_aload C 0 dX4_put_47 rfl ?_
        refine v_getf C (by omega) (by omega) (ct_row (by omega) (by omega)) rfl 0 (by decide) wf63 hinX3 rfl dX4_put_49 ?_
        refine v_iload_n C 3 dX4_put_52 rfl ?_
        refine v_iaload C (by omega) (by omega) (ct_places (by omega) (by omega)) (by omega) (by omega) (by unfold rlen; split <;> decide) dX4_put_53 ?_
        refine v_istore (lv' := [(5, .int (iI (g (16 + (6 + t)) (i)))), (4, .ref (a (6 + (6 + t)))), (0, .ref (a (0))), (1, .int (iI (t))), (2, .int (iI (i))), (3, .int (iI (v)))]) C dX4_put_54 (by decide) rfl ?_
        refine v_aload C 1 dX4_put_56 rfl ?_
        refine v_getf C (by omega) (by omega) (ct_row (by omega) (by omega)) rfl 0 (by decide) wf63 hinX3 rfl dX4_put_58 ?_
        refine v_iload_n C 4 dX4_put_61 rfl ?_
        refine v_iload_n C 5 dX4_put_62 rfl ?_
        refine v_i2b (z := (iI (i8 v))) C dX4_put_63 (i8_e v) ?_
        refine v_iastore C (cta_L a yc) (by omega) (by omega) (ct_places (by omega) (by omega)) (ct_places (by omega) (by omega)).symm (by omega) (by omega) (by unfold rlen; split <;> decide) dX4_put_64 ?_
        refine v_iload C 0 dX4_put_65 rfl ?_
        refine v_sipush C dX4_put_67 (by decide) ?_
        refine v_iadd C dX4_put_70 ?_
        exact v_ret_i C rfl dX4_put_71 ⟨(by repeat (first | rfl | rw [if_pos (by omega)] | rw [if_neg (by omega)])), (by repeat (first | rfl | rw [if_pos (by omega)] | rw [if_neg (by omega)]))⟩
      · skip
        refine v_aload_n C 1 dX4_put_41 rfl ?_
        refine v_iconst C dX4_put_42 ?_
        refine v_cV_i C (As := [.int (iI (2))]) (rest := []) (c_X4_refuse l D yc t1 t2 a A g 2 (by omega)) (cwV 1 C.hts gX4_put_X4_refuse rfl rfl rfl (by decide +kernel) ⟨by decide, by decide⟩) (fun H hP => va_recv C.hK hP (ci := 4) (q0 := (0 : Int).toNat) rfl (wo_is (by omega) (by omega) ct_cow)) rfl rfl (Nat.le_of_ble_eq_true rfl) dX4_put_43 ?_
        intro r9 g9 h9
        rw [h9.1, h9.2]
        clear h9 g9 r9
        try dsimp only
        exact v_ret_i C rfl dX4_put_46 ⟨(by repeat (first | rfl | rw [if_pos (by omega)] | rw [if_neg (by omega)])), (by repeat (first | rfl | rw [if_pos (by omega)] | rw [if_neg (by omega)]))⟩
    · skip
      refine v_aload_n C 1 dX4_put_26 rfl ?_
      refine v_iconst C dX4_put_27 ?_
      refine v_cV_i C (As := [.int (iI (1))]) (rest := []) (c_X4_refuse l D yc t1 t2 a A g 1 (by omega)) (cwV 1 C.hts gX4_put_X4_refuse rfl rfl rfl (by decide +kernel) ⟨by decide, by decide⟩) (fun H hP => va_recv C.hK hP (ci := 4) (q0 := (0 : Int).toNat) rfl (wo_is (by omega) (by omega) ct_cow)) rfl rfl (Nat.le_of_ble_eq_true rfl) dX4_put_28 ?_
      intro r9 g9 h9
      rw [h9.1, h9.2]
      clear h9 g9 r9
      try dsimp only
      exact v_ret_i C rfl dX4_put_31 ⟨(by repeat (first | rfl | rw [if_pos (by omega)] | rw [if_neg (by omega)])), (by repeat (first | rfl | rw [if_pos (by omega)] | rw [if_neg (by omega)]))⟩
  · skip
    refine v_iconst C dX4_put_8 ?_
    exact v_ret_i C rfl dX4_put_9 ⟨(by repeat (first | rfl | rw [if_pos (by omega)] | rw [if_neg (by omega)])), (by repeat (first | rfl | rw [if_pos (by omega)] | rw [if_neg (by omega)]))⟩

set_option maxRecDepth 100000 in
set_option maxHeartbeats 4000000 in
theorem c_X4_lay (l : Launch) (D : va_G) (yc : Nat → ClassId) (t1 t2 : Nat) (a : Int → Nat) (A : Nat → Prop) (g : Mm) (r i v : Int) (hr : R32 r) (hi : R32 i) (HC : CI g) : Ci l yX4_lay wsX4_lay { frames := 3, cells := 0, slots := 0, locals := 65 } D yc t1 t2 A (cw a yc) [.ref (a (0)), .int (iI (r)), .int (iI (i)), .int (iI (v))] g (fun r9 g' => r9 = (iI (if r < 0 ∨ 5 < r then -1 else if g (6 + r) 1 < 0 then -3 else if i < 0 ∨ g (6 + r) 1 ≤ i then -3 else 1)) ∧ g' = (if r < 0 ∨ 5 < r then g else if g (6 + r) 1 < 0 then fnC g 1 else if i < 0 ∨ g (6 + r) 1 ≤ i then fnC g 2 else mu (mu g 0 7 (g (16 + r) i)) (16 + r) i v)) := by
  refine start_i (cc := cX4_lay) (nL := 5) (ret := (some .int)) (own := RX4) (by decide +kernel) rfl rfl (Nat.le_of_ble_eq_true rfl) ?_
  intro p e s m9 below meth c9 C
  have wf11 : Cond.fieldLink RX4 11 (TX4 0).1 (TX4 0).2.1 (TX4 0).2.2.1 ∈ wsX4_lay := by decide +kernel
  have hinX4 : ∀ w ∈ u_ws RX4 TX4 10, w ∈ wsX4_lay := by decide +kernel
  have wf63 : Cond.fieldLink RX4 63 (TX3 0).1 (TX3 0).2.1 (TX3 0).2.2.1 ∈ wsX4_lay := by decide +kernel
  have hinX3 : ∀ w ∈ u_ws RX3 TX3 2, w ∈ wsX4_lay := by decide +kernel
  have hs : 0 ≤ r → r < 6 → -1 ≤ g (6 + r) 1 ∧ g (6 + r) 1 ≤ 40 := fun a b => HC.sz a b
  refine v_lv (lv' := [(0, .ref (a (0))), (1, .int (iI (r))), (2, .int (iI (i))), (3, .int (iI (v)))]) rfl ?_
  refine v_aload_n C 0 dX4_lay_0 rfl ?_
  refine v_iload_n C 1 dX4_lay_1 rfl ?_
  refine v_iload_n C 2 dX4_lay_2 rfl ?_
  refine v_cV_i C (As := [.int (iI (r)), .int (iI (i))]) (rest := []) (c_X4_at l D yc t1 t2 a A g r i (by omega) (by omega) HC) (cwV 2 C.hts gX4_lay_X4_at rfl rfl rfl (by decide +kernel) ⟨by decide, by decide⟩) (fun H hP => va_recv C.hK hP (ci := 4) (q0 := (0 : Int).toNat) rfl (wo_is (by omega) (by omega) ct_cow)) rfl rfl (Nat.le_of_ble_eq_true rfl) dX4_lay_3 ?_
  intro r9 g9 h9
  rw [h9.1, h9.2]
  clear h9 g9 r9
  try dsimp only
  refine v_istore (lv' := [(4, .int (iI (if r < 0 ∨ 5 < r then -1 else if g (6 + r) 1 < 0 then -3 else if i < 0 ∨ g (6 + r) 1 ≤ i then -3 else 1))), (0, .ref (a (0))), (1, .int (iI (r))), (2, .int (iI (i))), (3, .int (iI (v)))]) C dX4_lay_6 (by decide) rfl ?_
  refine v_iload C 0 dX4_lay_8 rfl ?_
  refine v_iconst C dX4_lay_10 ?_
  refine v_icmp_ne (tgt := 48) C dX4_lay_11 (by decide) (by (repeat (first | split)) <;> omega) (by (repeat (first | split)) <;> omega) (fun c11 => ?_) (fun c11 => ?_)
  · skip
    refine v_iload C 0 dX4_lay_48 rfl ?_
    exact v_ret_i C rfl dX4_lay_50 ⟨rfl, (by first | (rw [if_neg (by omega), if_neg (by omega), if_neg (by omega)]; done) | ((repeat' split at c11) <;> first | (exfalso; omega) | (repeat (first | rfl | rw [if_pos (by omega)] | rw [if_neg (by omega)]))))⟩
  · skip
    have hok : (0 ≤ r ∧ r ≤ 5) ∧ 0 ≤ g (6 + r) 1 ∧ 0 ≤ i ∧ i < g (6 + r) 1 := (by (repeat' split at c11) <;> first | omega | (exfalso; omega))
    have hs1 := hs (by omega) (by omega)
    have hl := rl40 (r := r) (by omega)
    refine v_g (g' := (mu g 0 7 (g (16 + r) i))) (by rw [if_neg (by omega), if_neg (by omega), if_neg (by omega)]) ?_
    refine v_iload_n C 2 dX4_lay_14 rfl ?_
    refine v_bipush C dX4_lay_15 (by decide) ?_
    refine v_cS_i C (As := [.int (iI (r)), .int (iI (6))]) (rest := []) (c_X4_isNone l D yc t1 t2 A (cw a yc) (mu g 0 7 (g (16 + r) i)) r 6 (by omega) (by omega)) (va_cwS 2 C.hts gX4_lay_X4_isNone rfl rfl rfl (by decide +kernel) ⟨by decide, by decide⟩) rfl rfl (Nat.le_of_ble_eq_true rfl) dX4_lay_17 ?_
    intro r9 g9 h9
    rw [h9.1, h9.2]
    clear h9 g9 r9
    try dsimp only
    refine v_ifb_ne (tgt := 48) C dX4_lay_20 (by decide) (fun c20 => ?_) (fun c20 => ?_)
    · exact absurd c20 (by omega)
    · skip
      refine v_aload_n C 1 dX4_lay_23 rfl ?_
      refine v_getf C (by omega) (by omega) ct_cow rfl 0 (by decide) wf11 hinX4 rfl dX4_lay_24 ?_
      refine v_iload_n C 2 dX4_lay_27 rfl ?_
      refine v_aaload (f := fun j => 6 + j) C (by omega) (by omega) 4 rfl ct_rowsA (by omega) (by omega) (by decide) dX4_lay_28 ?_
      refine v_iload_n C 3 dX4_lay_29 rfl ?_
      refine v_cV_i C (As := [.int (iI (i))]) (rest := []) (c_X3_has l D yc t1 t2 a A (mu g 0 7 (g (16 + r) i)) r i (by omega) (by omega) (by rw [mu_ne (by omega)]; omega)) (cwV 1 C.hts gX4_lay_X3_has rfl rfl rfl (by decide +kernel) ⟨by decide, by decide⟩) (fun H hP => va_recv C.hK hP (ci := 3) (q0 := (6 + r : Int).toNat) rfl (wo_is (by omega) (by omega) (ct_row (by omega) (by omega)))) rfl rfl (Nat.le_of_ble_eq_true rfl) dX4_lay_30 ?_
      intro r9 g9 h9
      rw [h9.1, h9.2]
      clear h9 g9 r9
      try dsimp only
      refine v_ifb_eq (tgt := 48) C dX4_lay_33 (by decide) (fun c33 => ?_) (fun c33 => ?_)
      · exact absurd c33 (by rw [mu_ne (by omega)]; omega)
      · skip
        refine v_aload_n C 1 dX4_lay_36 rfl ?_
        refine v_getf C (by omega) (by omega) ct_cow rfl 0 (by decide) wf11 hinX4 rfl dX4_lay_37 ?_
        refine v_iload_n C 2 dX4_lay_40 rfl ?_
        refine v_aaload (f := fun j => 6 + j) C (by omega) (by omega) 4 rfl ct_rowsA (by omega) (by omega) (by decide) dX4_lay_41 ?_
        refine v_getf C (by omega) (by omega) (ct_row (by omega) (by omega)) rfl 0 (by decide) wf63 hinX3 rfl dX4_lay_42 ?_
        refine v_iload_n C 3 dX4_lay_45 rfl ?_
        refine v_iload_n C 4 dX4_lay_46 rfl ?_
        refine v_iastore C (cta_L a yc) (by omega) (by omega) (ct_places (by omega) (by omega)) (ct_places (by omega) (by omega)).symm (by omega) (by omega) (by unfold rlen; split <;> decide) dX4_lay_47 ?_
        refine v_iload C 0 dX4_lay_48 rfl ?_
        exact v_ret_i C rfl dX4_lay_50 ⟨rfl, (by first | (rw [if_neg (by omega), if_neg (by omega), if_neg (by omega)]; done) | ((repeat' split at c11) <;> first | (exfalso; omega) | (repeat (first | rfl | rw [if_pos (by omega)] | rw [if_neg (by omega)]))))⟩
