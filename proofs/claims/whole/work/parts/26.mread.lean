set_option maxRecDepth 100000 in
set_option maxHeartbeats 4000000 in
theorem c_X5_look (l : Launch) (D : va_G) (yc : Nat → ClassId) (t1 t2 : Nat) (a : Int → Nat) (A : Nat → Prop) (g : Mm) (t : Int) (Dr : Int → Int) (pl wl : Int) (ht : 0 ≤ t ∧ t < 4) (hL : -1 ≤ g 4 t ∧ g 4 t ≤ 60) (HB : ∀ j, -128 ≤ g 5 j ∧ g 5 j ≤ 127) (hp : 0 ≤ pl ∧ pl ≤ 60) : Ci l yX5_look wsX5_look { frames := 0, cells := 0, slots := 0, locals := 0 } D yc t1 t2 A (mw a yc) [.ref (a (0)), .int (iI (t))] (pS g Dr pl wl) (fun r9 g' => r9 = (iI (lk (fun x9 => g 5 (60 * t + x9)) (g 4 t) pl)) ∧ g' = (pS g Dr pl wl)) := by
  refine start_i (cc := cX5_look) (nL := 2) (ret := (some .int)) (own := RX5) (by decide +kernel) rfl rfl (Nat.le_of_ble_eq_true rfl) ?_
  intro p e s m9 below meth c9 C
  have wf84 : Cond.fieldLink RX5 84 (TX5 15).1 (TX5 15).2.1 (TX5 15).2.2.1 ∈ wsX5_look := by decide +kernel
  have hinX5 : ∀ w ∈ u_ws RX5 TX5 17, w ∈ wsX5_look := by decide +kernel
  have wf19 : Cond.fieldLink RX5 19 (TX5 3).1 (TX5 3).2.1 (TX5 3).2.2.1 ∈ wsX5_look := by decide +kernel
  have wf22 : Cond.fieldLink RX5 22 (TX5 4).1 (TX5 4).2.1 (TX5 4).2.2.1 ∈ wsX5_look := by decide +kernel
  refine v_lv (lv' := [(0, .ref (a (0))), (1, .int (iI (t)))]) rfl ?_
  refine v_aload_n C 0 dX5_look_0 rfl ?_
  refine v_getf C (by omega) (by omega) ct_mod rfl 15 (by decide) wf84 hinX5 rfl dX5_look_1 ?_
  refine v_st (st' := [.int (iI (pl))]) (by rw [pS_p]) ?_
  refine v_aload_n C 0 dX5_look_4 rfl ?_
  refine v_getf C (by omega) (by omega) ct_mod rfl 3 (by decide) wf19 hinX5 rfl dX5_look_5 ?_
  refine v_iload_n C 1 dX5_look_8 rfl ?_
  refine v_iaload C (by omega) (by omega) ct_mlengths (by omega) (by omega) (by decide) dX5_look_9 ?_
  refine v_st (st' := [.int (iI (g (4) (t))), .int (iI (pl))]) (by rw [pS_o (by decide) (by decide)]) ?_
  refine v_icmp_ge (tgt := 30) C dX5_look_10 (by decide) (by omega) (by omega) (fun c10 => ?_) (fun c10 => ?_)
  · skip
    refine v_sipush C dX5_look_30 (by decide) ?_
    exact v_ret_i C rfl dX5_look_33 ⟨(by unfold lk; first | rw [if_pos (by omega)] | rw [if_neg (by omega)]), rfl⟩
  · skip
    refine v_aload_n C 0 dX5_look_13 rfl ?_
    refine v_getf C (by omega) (by omega) ct_mod rfl 4 (by decide) wf22 hinX5 rfl dX5_look_14 ?_
    refine v_bipush C dX5_look_17 (by decide) ?_
    refine v_iload_n C 1 dX5_look_19 rfl ?_
    refine v_imul C dX5_look_20 ?_
    refine v_aload_n C 0 dX5_look_21 rfl ?_
    refine v_getf C (by omega) (by omega) ct_mod rfl 15 (by decide) wf84 hinX5 rfl dX5_look_22 ?_
    refine v_st (st' := [.int (iI (pl)), .int (iI (60 * t)), .ref (a (5))]) (by rw [pS_p]) ?_
    refine v_iadd C dX5_look_25 ?_
    refine v_iaload C (by omega) (by omega) ct_mbytes (by omega) (by omega) (by decide) dX5_look_26 ?_
    refine v_st (st' := [.int (iI (g (5) ((60 * t) + pl)))]) (by rw [pS_o (by decide) (by decide)]) ?_
    refine v_goto (tgt := 33) C dX5_look_27 (by decide) ?_
    exact v_ret_i C rfl dX5_look_33 ⟨(by unfold lk; first | rw [if_pos (by omega)] | rw [if_neg (by omega)]), rfl⟩

set_option maxRecDepth 100000 in
set_option maxHeartbeats 4000000 in
theorem c_X5_skips (l : Launch) (D : va_G) (yc : Nat → ClassId) (t1 t2 : Nat) (a : Int → Nat) (A : Nat → Prop) (g : Mm) (t : Int) (Dr : Int → Int) (pl wl : Int) (ht : 0 ≤ t ∧ t < 4) (hL : -1 ≤ g 4 t ∧ g 4 t ≤ 60) (HB : ∀ j, -128 ≤ g 5 j ∧ g 5 j ≤ 127) (hp : 0 ≤ pl ∧ pl ≤ 60) : Cv l yX5_skips wsX5_skips { frames := 1, cells := 0, slots := 0, locals := 21 } D yc t1 t2 A (mw a yc) [.ref (a (0)), .int (iI (t))] (pS g Dr pl wl) (fun g' => g' = (pS g Dr (sk (fun x9 => g 5 (60 * t + x9)) (g 4 t) pl) wl)) := by
  refine start_v (cc := cX5_skips) (nL := 2) (ret := none) (own := RX5) (by decide +kernel) rfl rfl (Nat.le_of_ble_eq_true rfl) ?_
  intro p e s m9 below meth c9 C
  have wf84 : Cond.fieldLink RX5 84 (TX5 15).1 (TX5 15).2.1 (TX5 15).2.2.1 ∈ wsX5_skips := by decide +kernel
  have hinX5 : ∀ w ∈ u_ws RX5 TX5 17, w ∈ wsX5_skips := by decide +kernel
  refine v_lv (lv' := [(0, .ref (a (0))), (1, .int (iI (t)))]) rfl ?_
  refine v_loop1 (fun (x : Int) => (60 - x).toNat) (fun (x : Int) => 0 ≤ x ∧ x ≤ 60 ∧ sk (fun x9 => g 5 (60 * t + x9)) (g 4 t) x = sk (fun x9 => g 5 (60 * t + x9)) (g 4 t) pl) (fun (x : Int) => [(0, .ref (a (0))), (1, .int (iI (t)))]) (fun (x : Int) => (pS g Dr x wl)) ?_ pl ⟨by omega, by omega, rfl⟩
  intro x hI0 ih0
  try dsimp only at ih0 ⊢
  refine v_aload_n C 0 dX5_skips_0 rfl ?_
  refine v_iload_n C 1 dX5_skips_1 rfl ?_
  refine v_cV_i C (As := [.int (iI (t))]) (rest := []) (c_X5_look l D yc t1 t2 a A g t Dr x wl (by omega) (by omega) HB (by omega)) (cwV 1 C.hts gX5_skips_X5_look rfl rfl rfl (by decide +kernel) ⟨by decide, by decide⟩) (fun H hP => va_recv C.hK hP (ci := 5) (q0 := (0 : Int).toNat) rfl (wo_is (by omega) (by omega) ct_mod)) rfl rfl (Nat.le_of_ble_eq_true rfl) dX5_skips_2 ?_
  intro r9 g9 h9
  rw [h9.1, h9.2]
  clear h9 g9 r9
  try dsimp only
  have hlr := lk_bd (B := (fun x9 => g 5 (60 * t + x9))) (fun j => HB (60 * t + j)) (g 4 t) x
  refine v_bipush C dX5_skips_5 (by decide) ?_
  refine v_icmp_ne (tgt := 23) C dX5_skips_7 (by decide) (by omega) (by omega) (fun c7 => ?_) (fun c7 => ?_)
  · skip
    exact v_ret_v C rfl dX5_skips_23 (by rw [← hI0.2.2, sk_n c7])
  · skip
    refine v_aload_n C 0 dX5_skips_10 rfl ?_
    refine v_dup C dX5_skips_11 rfl ?_
    refine v_getf C (by omega) (by omega) ct_mod rfl 15 (by decide) wf84 hinX5 rfl dX5_skips_12 ?_
    refine v_st (st' := [.int (iI (x)), .ref (a (0))]) (by rw [pS_p]) ?_
    refine v_iconst C dX5_skips_15 ?_
    refine v_iadd C dX5_skips_16 ?_
    refine v_puti C (ctm_L a yc) (by omega) (by omega) ct_mod rfl 15 (by decide) wf84 hinX5 tyX5 tyX5_ok nmX5 rfl (by decide +kernel) (by simp) cs_mod_15 dX5_skips_17 ?_
    refine v_g (g' := (pS g Dr (x + 1) wl)) (pS_1 _ _ _ _ _) ?_
    refine v_goto (tgt := 0) C dX5_skips_20 (by decide) ?_
    exact ih0 (x + 1) ⟨by omega, by have := lk_32 (B := (fun x9 => g 5 (60 * t + x9))) (L := (g 4 t)) (p := x) (by omega); omega, by rw [← hI0.2.2]; exact (sk_y (by omega) c7).symm⟩ (by have := lk_32 (B := (fun x9 => g 5 (60 * t + x9))) (L := (g 4 t)) (p := x) (by omega); omega)

set_option maxRecDepth 100000 in
set_option maxHeartbeats 4000000 in
theorem c_X5_takes (l : Launch) (D : va_G) (yc : Nat → ClassId) (t1 t2 : Nat) (a : Int → Nat) (A : Nat → Prop) (g : Mm) (b : Int) (Dr : Int → Int) (pl wl : Int) (hw : wl = 0 ∨ wl = 1) (hb : b = 0 ∨ b = 1) : Cv l yX5_takes wsX5_takes { frames := 0, cells := 0, slots := 0, locals := 0 } D yc t1 t2 A (mw a yc) [.ref (a (0)), .int (iI (b))] (pS g Dr pl wl) (fun g' => g' = (pS g Dr (pl + an wl b) (an wl b))) := by
  refine start_v (cc := cX5_takes) (nL := 2) (ret := none) (own := RX5) (by decide +kernel) rfl rfl (Nat.le_of_ble_eq_true rfl) ?_
  intro p e s m9 below meth c9 C
  have wf90 : Cond.fieldLink RX5 90 (TX5 16).1 (TX5 16).2.1 (TX5 16).2.2.1 ∈ wsX5_takes := by decide +kernel
  have hinX5 : ∀ w ∈ u_ws RX5 TX5 17, w ∈ wsX5_takes := by decide +kernel
  have wf84 : Cond.fieldLink RX5 84 (TX5 15).1 (TX5 15).2.1 (TX5 15).2.2.1 ∈ wsX5_takes := by decide +kernel
  refine v_lv (lv' := [(0, .ref (a (0))), (1, .int (iI (b)))]) rfl ?_
  refine v_aload_n C 0 dX5_takes_0 rfl ?_
  refine v_cut1 17 (fun (v17 : Int) => v17 = an wl b) (fun (v17 : Int) => [(0, .ref (a (0))), (1, .int (iI (b)))]) (fun (v17 : Int) => [.int (iI (v17)), .ref (a (0))]) (fun (v17 : Int) => (pS g Dr pl wl)) ?_ ?_
  · intro v17 hj17
    try dsimp only
    have hv17 : v17 = 0 ∨ v17 = 1 := by rw [hj17]; unfold an; split <;> omega
    refine v_putz C (ctm_L a yc) (by omega) (by omega) ct_mod rfl 16 (by decide) wf90 hinX5 tyX5 tyX5_ok nmX5 rfl (by decide +kernel) (by simp) (by omega) cs_mod_16 dX5_takes_17 ?_
    refine v_g (g' := (pS g Dr pl v17)) (pS_2 _ _ _ _ _) ?_
    refine v_aload_n C 0 dX5_takes_20 rfl ?_
    refine v_dup C dX5_takes_21 rfl ?_
    refine v_getf C (by omega) (by omega) ct_mod rfl 15 (by decide) wf84 hinX5 rfl dX5_takes_22 ?_
    refine v_st (st' := [.int (iI (pl)), .ref (a (0))]) (by rw [pS_p]) ?_
    refine v_cut1 37 (fun (v37 : Int) => v37 = v17) (fun (v37 : Int) => [(0, .ref (a (0))), (1, .int (iI (b)))]) (fun (v37 : Int) => [.int (iI (v37)), .int (iI (pl)), .ref (a (0))]) (fun (v37 : Int) => (pS g Dr pl v17)) ?_ ?_
    · intro v37 hj37
      try dsimp only
      refine v_iadd C dX5_takes_37 ?_
      refine v_puti C (ctm_L a yc) (by omega) (by omega) ct_mod rfl 15 (by decide) wf84 hinX5 tyX5 tyX5_ok nmX5 rfl (by decide +kernel) (by simp) cs_mod_15 dX5_takes_38 ?_
      refine v_g (g' := (pS g Dr (pl + v37) v17)) (pS_1 _ _ _ _ _) ?_
      exact v_ret_v C rfl dX5_takes_41 (by rw [hj37, hj17])
    · intro jn37
      try dsimp only at jn37
      refine v_aload_n C 0 dX5_takes_25 rfl ?_
      refine v_getf C (by omega) (by omega) ct_mod rfl 16 (by decide) wf90 hinX5 rfl dX5_takes_26 ?_
      refine v_st (st' := [.int (iI (v17)), .int (iI (pl)), .ref (a (0))]) (by rw [pS_w]) ?_
      refine v_if_eq (tgt := 36) C dX5_takes_29 (by decide) (by omega) (fun c29 => ?_) (fun c29 => ?_)
      · skip
        refine v_iconst C dX5_takes_36 ?_
        exact jn37 0 (by omega)
      · skip
        refine v_iconst C dX5_takes_32 ?_
        refine v_goto (tgt := 37) C dX5_takes_33 (by decide) ?_
        exact jn37 1 (by omega)
  · intro jn17
    try dsimp only at jn17
    refine v_aload_n C 0 dX5_takes_1 rfl ?_
    refine v_getf C (by omega) (by omega) ct_mod rfl 16 (by decide) wf90 hinX5 rfl dX5_takes_2 ?_
    refine v_st (st' := [.int (iI (wl)), .ref (a (0))]) (by rw [pS_w]) ?_
    refine v_if_eq (tgt := 16) C dX5_takes_5 (by decide) (by omega) (fun c5 => ?_) (fun c5 => ?_)
    · skip
      refine v_iconst C dX5_takes_16 ?_
      exact jn17 0 (by unfold an; first | rw [if_pos (by omega)] | rw [if_neg (by omega)])
    · skip
      refine v_iload_n C 1 dX5_takes_8 rfl ?_
      refine v_if_eq (tgt := 16) C dX5_takes_9 (by decide) (by omega) (fun c9 => ?_) (fun c9 => ?_)
      · skip
        refine v_iconst C dX5_takes_16 ?_
        exact jn17 0 (by unfold an; first | rw [if_pos (by omega)] | rw [if_neg (by omega)])
      · skip
        refine v_iconst C dX5_takes_12 ?_
        refine v_goto (tgt := 17) C dX5_takes_13 (by decide) ?_
        exact jn17 1 (by unfold an; first | rw [if_pos (by omega)] | rw [if_neg (by omega)])

set_option maxRecDepth 100000 in
set_option maxHeartbeats 4000000 in
theorem c_X5_kindOf (l : Launch) (D : va_G) (yc : Nat → ClassId) (t1 t2 : Nat) (A : Nat → Prop) {M : Type} (ww : M → va_W) (g : M) (ch : Int) (hch : R32 ch) : Ci l yX5_kindOf wsX5_kindOf { frames := 0, cells := 0, slots := 0, locals := 0 } D yc t1 t2 A ww [.int (iI (ch))] g (fun r9 g' => r9 = (iI (kd ch)) ∧ g' = g) := by
  refine start_i (cc := cX5_kindOf) (nL := 1) (ret := (some .int)) (own := RX5) (by decide +kernel) rfl rfl (Nat.le_of_ble_eq_true rfl) ?_
  intro p e s m9 below meth c9 C
  refine v_lv (lv' := [(0, .int (iI (ch)))]) rfl ?_
  refine v_iload_n C 0 dX5_kindOf_0 rfl ?_
  rcases (show ch = 99 ∨ ch = 100 ∨ ch = 104 ∨ ch = 117 ∨ ch = 120 ∨ ch = 121 ∨ (¬ ch = 99 ∧ ¬ ch = 100 ∧ ¬ ch = 104 ∧ ¬ ch = 117 ∧ ¬ ch = 120 ∧ ¬ ch = 121) by omega) with c1 | c1 | c1 | c1 | c1 | c1 | c1
  · refine v_lsw (off := 59) (tgt := 60) C dX5_kindOf_1 (by omega) rfl (by rw [c1]; decide) (by decide) ?_
    refine v_iconst C dX5_kindOf_60 ?_
    exact v_ret_i C rfl dX5_kindOf_61 ⟨(by unfold kd; repeat (first | rfl | rw [if_pos (by omega)] | rw [if_neg (by omega)])), rfl⟩
  · refine v_lsw (off := 61) (tgt := 62) C dX5_kindOf_1 (by omega) rfl (by rw [c1]; decide) (by decide) ?_
    refine v_iconst C dX5_kindOf_62 ?_
    exact v_ret_i C rfl dX5_kindOf_63 ⟨(by unfold kd; repeat (first | rfl | rw [if_pos (by omega)] | rw [if_neg (by omega)])), rfl⟩
  · refine v_lsw (off := 67) (tgt := 68) C dX5_kindOf_1 (by omega) rfl (by rw [c1]; decide) (by decide) ?_
    refine v_iconst C dX5_kindOf_68 ?_
    exact v_ret_i C rfl dX5_kindOf_69 ⟨(by unfold kd; repeat (first | rfl | rw [if_pos (by omega)] | rw [if_neg (by omega)])), rfl⟩
  · refine v_lsw (off := 65) (tgt := 66) C dX5_kindOf_1 (by omega) rfl (by rw [c1]; decide) (by decide) ?_
    refine v_iconst C dX5_kindOf_66 ?_
    exact v_ret_i C rfl dX5_kindOf_67 ⟨(by unfold kd; repeat (first | rfl | rw [if_pos (by omega)] | rw [if_neg (by omega)])), rfl⟩
  · refine v_lsw (off := 69) (tgt := 70) C dX5_kindOf_1 (by omega) rfl (by rw [c1]; decide) (by decide) ?_
    refine v_iconst C dX5_kindOf_70 ?_
    exact v_ret_i C rfl dX5_kindOf_71 ⟨(by unfold kd; repeat (first | rfl | rw [if_pos (by omega)] | rw [if_neg (by omega)])), rfl⟩
  · refine v_lsw (off := 63) (tgt := 64) C dX5_kindOf_1 (by omega) rfl (by rw [c1]; decide) (by decide) ?_
    refine v_iconst C dX5_kindOf_64 ?_
    exact v_ret_i C rfl dX5_kindOf_65 ⟨(by unfold kd; repeat (first | rfl | rw [if_pos (by omega)] | rw [if_neg (by omega)])), rfl⟩
  · refine v_lsw (off := 71) (tgt := 72) C dX5_kindOf_1 (by omega) rfl (by simp [Op.lookupswitch.offset, c1, show ¬ (99 : Int) = ch by omega, show ¬ (100 : Int) = ch by omega, show ¬ (104 : Int) = ch by omega, show ¬ (117 : Int) = ch by omega, show ¬ (120 : Int) = ch by omega, show ¬ (121 : Int) = ch by omega]) (by decide) ?_
    refine v_bipush C dX5_kindOf_72 (by decide) ?_
    exact v_ret_i C rfl dX5_kindOf_74 ⟨(by unfold kd; repeat (first | rfl | rw [if_pos (by omega)] | rw [if_neg (by omega)])), rfl⟩

set_option maxRecDepth 100000 in
set_option maxHeartbeats 4000000 in
theorem c_X5_readsTurns (l : Launch) (D : va_G) (yc : Nat → ClassId) (t1 t2 : Nat) (a : Int → Nat) (A : Nat → Prop) (g : Mm) (t : Int) (Dr : Int → Int) (pl : Int) (ht : 0 ≤ t ∧ t < 4) (hL : -1 ≤ g 4 t ∧ g 4 t ≤ 60) (HB : ∀ j, -128 ≤ g 5 j ∧ g 5 j ≤ 127) (hp : 0 ≤ pl ∧ pl ≤ 60) (hD : Dr 1 = 0) : Cv l yX5_readsTurns wsX5_readsTurns { frames := 2, cells := 0, slots := 0, locals := 42 } D yc t1 t2 A (mw a yc) [.ref (a (0)), .int (iI (t))] (pS g Dr pl 1) (fun g' => g' = (pS g (iD (fun x9 => g 5 (60 * t + x9)) (g 4 t) 116 97 98 6 1 8 pl Dr) (iP (fun x9 => g 5 (60 * t + x9)) (g 4 t) 116 97 98 8 pl) (iW (fun x9 => g 5 (60 * t + x9)) (g 4 t) 116 97 98 8 pl))) := by
  refine start_v (cc := cX5_readsTurns) (nL := 4) (ret := none) (own := RX5) (by decide +kernel) rfl rfl (Nat.le_of_ble_eq_true rfl) ?_
  intro p e s m9 below meth c9 C
  have wf90 : Cond.fieldLink RX5 90 (TX5 16).1 (TX5 16).2.1 (TX5 16).2.2.1 ∈ wsX5_readsTurns := by decide +kernel
  have hinX5 : ∀ w ∈ u_ws RX5 TX5 17, w ∈ wsX5_readsTurns := by decide +kernel
  have wf28 : Cond.fieldLink RX5 28 (TX5 6).1 (TX5 6).2.1 (TX5 6).2.2.1 ∈ wsX5_readsTurns := by decide +kernel
  have hsr := sk_r (fun x9 => g 5 (60 * t + x9)) (L := (g 4 t)) (p := pl) (by omega) (by omega)
  have hl0 := lk_bd (B := (fun x9 => g 5 (60 * t + x9))) (fun j => HB (60 * t + j)) (g 4 t) (sk (fun x9 => g 5 (60 * t + x9)) (g 4 t) pl)
  refine v_lv (lv' := [(0, .ref (a (0))), (1, .int (iI (t)))]) rfl ?_
  refine v_aload_n C 0 dX5_readsTurns_0 rfl ?_
  refine v_iload_n C 1 dX5_readsTurns_1 rfl ?_
  refine v_cV_v C (As := [.int (iI (t))]) (rest := []) (c_X5_skips l D yc t1 t2 a A g t Dr pl 1 (by omega) (by omega) HB (by omega)) (cwV 1 C.hts gX5_readsTurns_X5_skips rfl rfl rfl (by decide +kernel) ⟨by decide, by decide⟩) (fun H hP => va_recv C.hK hP (ci := 5) (q0 := (0 : Int).toNat) rfl (wo_is (by omega) (by omega) ct_mod)) rfl rfl (Nat.le_of_ble_eq_true rfl) dX5_readsTurns_2 ?_
  intro g9 h9
  rw [h9]
  clear h9 g9
  try dsimp only
  refine v_aload_n C 0 dX5_readsTurns_5 rfl ?_
  refine v_aload_n C 0 dX5_readsTurns_6 rfl ?_
  refine v_iload_n C 1 dX5_readsTurns_7 rfl ?_
  refine v_cV_i C (As := [.int (iI (t))]) (rest := [.ref (a (0))]) (c_X5_look l D yc t1 t2 a A g t Dr (sk (fun x9 => g 5 (60 * t + x9)) (g 4 t) pl) 1 (by omega) (by omega) HB (by omega)) (cwV 1 C.hts gX5_readsTurns_X5_look rfl rfl rfl (by decide +kernel) ⟨by decide, by decide⟩) (fun H hP => va_recv C.hK hP (ci := 5) (q0 := (0 : Int).toNat) rfl (wo_is (by omega) (by omega) ct_mod)) rfl rfl (Nat.le_of_ble_eq_true rfl) dX5_readsTurns_8 ?_
  intro r9 g9 h9
  rw [h9.1, h9.2]
  clear h9 g9 r9
  try dsimp only
  refine v_bipush C dX5_readsTurns_11 (by decide) ?_
  refine v_icmp_ne (tgt := 20) C dX5_readsTurns_13 (by decide) (by omega) (by omega) (fun c13 => ?_) (fun c13 => ?_)
  · skip
    refine v_iconst C dX5_readsTurns_20 ?_
    refine v_cV_v C (As := [.int (iI (0))]) (rest := []) (c_X5_takes l D yc t1 t2 a A g 0 Dr (sk (fun x9 => g 5 (60 * t + x9)) (g 4 t) pl) 1 (Or.inr rfl) (by omega)) (cwV 1 C.hts gX5_readsTurns_X5_takes rfl rfl rfl (by decide +kernel) ⟨by decide, by decide⟩) (fun H hP => va_recv C.hK hP (ci := 5) (q0 := (0 : Int).toNat) rfl (wo_is (by omega) (by omega) ct_mod)) rfl rfl (Nat.le_of_ble_eq_true rfl) dX5_readsTurns_21 ?_
    intro g9 h9
    rw [h9]
    clear h9 g9
    try dsimp only
    refine v_g (g' := (pS g Dr (sk (fun x9 => g 5 (60 * t + x9)) (g 4 t) pl) 0)) (by first | rw [an_11] | rw [an_10, Int.add_zero]) ?_
    refine v_iconst C dX5_readsTurns_24 ?_
    refine v_istore_n (lv' := [(2, .int (iI (1))), (0, .ref (a (0))), (1, .int (iI (t)))]) C dX5_readsTurns_25 (by decide) rfl ?_
    refine v_aload_n C 1 dX5_readsTurns_26 rfl ?_
    refine v_getf C (by omega) (by omega) ct_mod rfl 16 (by decide) wf90 hinX5 rfl dX5_readsTurns_27 ?_
    refine v_st (st' := [.int (iI (0))]) (by rw [pS_w]) ?_
    refine v_if_eq (tgt := 125) C dX5_readsTurns_30 (by decide) (by decide) (fun _ => ?_) (fun h9 => absurd h9 (by decide))
    exact v_ret_v C rfl dX5_readsTurns_125 (by first | (have hz := it_n (B := (fun x9 => g 5 (60 * t + x9))) (L := (g 4 t)) (c := 116) (lo := 97) (hi := 98) (bs := 6) (cs := 1) (p := pl) (mx := 8) (D := Dr) c13; rw [hz.1, hz.2.1, hz.2.2]) | (have hz := it_y (B := (fun x9 => g 5 (60 * t + x9))) (L := (g 4 t)) (c := 116) (lo := 97) (hi := 98) (bs := 6) (cs := 1) (p := pl) (k := k) (mx := 8) (D := Dr) c13 (by omega) (by omega) (by rw [← hI26.2.2.2.2.2.2]; exact ff_y (by omega) (decide_eq_true (by omega))); rw [hz.1, hz.2.1, hz.2.2]) | (have hk0 : k = 0 := (by omega); have hz := it_0 (B := (fun x9 => g 5 (60 * t + x9))) (L := (g 4 t)) (c := 116) (lo := 97) (hi := 98) (bs := 6) (cs := 1) (p := pl) (mx := 8) (D := Dr) c13 (by omega) (by rw [← hI26.2.2.2.2.2.2, hk0, Int.add_zero]; exact ff_y (by omega) (decide_eq_true (by have hc := c63; rw [hk0, Int.add_zero] at hc; exact hc))); rw [hz.1, hz.2.1, hz.2.2, hk0, Int.add_zero]; rfl) | (have hk8 : k = 8 := (by omega); have hz := it_m (B := (fun x9 => g 5 (60 * t + x9))) (L := (g 4 t)) (c := 116) (lo := 97) (hi := 98) (bs := 6) (cs := 1) (p := pl) (mx := 8) (D := Dr) c13 (by rw [← hI26.2.2.2.2.2.2, ff_n (by omega) (fun h => absurd (of_decide_eq_true h) (by omega)), ff_e (by omega)]); rw [hz.1, hz.2.1, hz.2.2, hk8]; rfl))
  · skip
    refine v_iconst C dX5_readsTurns_16 ?_
    refine v_goto (tgt := 21) C dX5_readsTurns_17 (by decide) ?_
    refine v_cV_v C (As := [.int (iI (1))]) (rest := []) (c_X5_takes l D yc t1 t2 a A g 1 Dr (sk (fun x9 => g 5 (60 * t + x9)) (g 4 t) pl) 1 (Or.inr rfl) (by omega)) (cwV 1 C.hts gX5_readsTurns_X5_takes rfl rfl rfl (by decide +kernel) ⟨by decide, by decide⟩) (fun H hP => va_recv C.hK hP (ci := 5) (q0 := (0 : Int).toNat) rfl (wo_is (by omega) (by omega) ct_mod)) rfl rfl (Nat.le_of_ble_eq_true rfl) dX5_readsTurns_21 ?_
    intro g9 h9
    rw [h9]
    clear h9 g9
    try dsimp only
    refine v_g (g' := (pS g Dr (sk (fun x9 => g 5 (60 * t + x9)) (g 4 t) pl + 1) 1)) (by first | rw [an_11] | rw [an_10, Int.add_zero]) ?_
    refine v_iconst C dX5_readsTurns_24 ?_
    refine v_istore_n (lv' := [(2, .int (iI (1))), (0, .ref (a (0))), (1, .int (iI (t)))]) C dX5_readsTurns_25 (by decide) rfl ?_
    refine v_g (g' := (pS g (rD (fun x9 => g 5 (60 * t + x9)) (g 4 t) 97 6 1 (sk (fun x9 => g 5 (60 * t + x9)) (g 4 t) pl + 1) Dr ((0 : Int)).toNat) ((sk (fun x9 => g 5 (60 * t + x9)) (g 4 t) pl + 1) + 0) 1)) (by rw [Int.add_zero]; rfl) ?_
    refine v_lv (congrArg (fun x9 => ([(2, .int (iI x9)), (0, .ref (a (0))), (1, .int (iI (t)))] : List (Nat × Value))) (show (1) = (((1 : Int))) by first | rfl | omega | (simp; done))) ?_
    refine v_loop2 (fun (y : Int) (k : Int) => (8 - k).toNat) (fun (y : Int) (k : Int) => 0 ≤ k ∧ k ≤ 8 ∧ (sk (fun x9 => g 5 (60 * t + x9)) (g 4 t) pl + 1) + k ≤ 60 ∧ (y = 0 ∨ y = 1) ∧ (k = 0 → y = 1) ∧ (0 < k → (y = 1 ↔ (97 ≤ lk (fun x9 => g 5 (60 * t + x9)) (g 4 t) ((sk (fun x9 => g 5 (60 * t + x9)) (g 4 t) pl + 1) + k) ∧ lk (fun x9 => g 5 (60 * t + x9)) (g 4 t) ((sk (fun x9 => g 5 (60 * t + x9)) (g 4 t) pl + 1) + k) ≤ 98))) ∧ ff (ntP (fun x9 => g 5 (60 * t + x9)) (g 4 t) 97 98) ((sk (fun x9 => g 5 (60 * t + x9)) (g 4 t) pl + 1) + 9 - ((sk (fun x9 => g 5 (60 * t + x9)) (g 4 t) pl + 1) + k)).toNat ((sk (fun x9 => g 5 (60 * t + x9)) (g 4 t) pl + 1) + k) = rX (fun x9 => g 5 (60 * t + x9)) (g 4 t) 97 98 8 (sk (fun x9 => g 5 (60 * t + x9)) (g 4 t) pl + 1)) (fun (y : Int) (k : Int) => [(2, .int (iI (y))), (0, .ref (a (0))), (1, .int (iI (t)))]) (fun (y : Int) (k : Int) => (pS g (rD (fun x9 => g 5 (60 * t + x9)) (g 4 t) 97 6 1 (sk (fun x9 => g 5 (60 * t + x9)) (g 4 t) pl + 1) Dr k.toNat) ((sk (fun x9 => g 5 (60 * t + x9)) (g 4 t) pl + 1) + k) 1)) ?_ 1 0 ⟨by omega, by omega, by have := lk_32 (B := (fun x9 => g 5 (60 * t + x9))) (L := (g 4 t)) (p := sk (fun x9 => g 5 (60 * t + x9)) (g 4 t) pl) (by omega); omega, by omega, by omega, by omega, by unfold rX; rw [show ((sk (fun x9 => g 5 (60 * t + x9)) (g 4 t) pl + 1) + 9 - ((sk (fun x9 => g 5 (60 * t + x9)) (g 4 t) pl + 1) + 0)).toNat = 8+1 by omega, Int.add_zero]⟩
    intro y k hI26 ih26
    try dsimp only at ih26 ⊢
    refine v_aload_n C 1 dX5_readsTurns_26 rfl ?_
    refine v_getf C (by omega) (by omega) ct_mod rfl 16 (by decide) wf90 hinX5 rfl dX5_readsTurns_27 ?_
    refine v_st (st' := [.int (iI (1))]) (by rw [pS_w]) ?_
    refine v_if_eq (tgt := 125) C dX5_readsTurns_30 (by decide) (by decide) (fun h9 => absurd h9 (by decide)) (fun _ => ?_)
    refine v_iload_n C 0 dX5_readsTurns_33 rfl ?_
    refine v_if_eq (tgt := 125) C dX5_readsTurns_34 (by decide) (by omega) (fun c34 => ?_) (fun c34 => ?_)
    · skip
      exact v_ret_v C rfl dX5_readsTurns_125 (by first | (have hz := it_n (B := (fun x9 => g 5 (60 * t + x9))) (L := (g 4 t)) (c := 116) (lo := 97) (hi := 98) (bs := 6) (cs := 1) (p := pl) (mx := 8) (D := Dr) c13; rw [hz.1, hz.2.1, hz.2.2]) | (have hz := it_y (B := (fun x9 => g 5 (60 * t + x9))) (L := (g 4 t)) (c := 116) (lo := 97) (hi := 98) (bs := 6) (cs := 1) (p := pl) (k := k) (mx := 8) (D := Dr) c13 (by omega) (by omega) (by rw [← hI26.2.2.2.2.2.2]; exact ff_y (by omega) (decide_eq_true (by omega))); rw [hz.1, hz.2.1, hz.2.2]) | (have hk0 : k = 0 := (by omega); have hz := it_0 (B := (fun x9 => g 5 (60 * t + x9))) (L := (g 4 t)) (c := 116) (lo := 97) (hi := 98) (bs := 6) (cs := 1) (p := pl) (mx := 8) (D := Dr) c13 (by omega) (by rw [← hI26.2.2.2.2.2.2, hk0, Int.add_zero]; exact ff_y (by omega) (decide_eq_true (by have hc := c63; rw [hk0, Int.add_zero] at hc; exact hc))); rw [hz.1, hz.2.1, hz.2.2, hk0, Int.add_zero]; rfl) | (have hk8 : k = 8 := (by omega); have hz := it_m (B := (fun x9 => g 5 (60 * t + x9))) (L := (g 4 t)) (c := 116) (lo := 97) (hi := 98) (bs := 6) (cs := 1) (p := pl) (mx := 8) (D := Dr) c13 (by rw [← hI26.2.2.2.2.2.2, ff_n (by omega) (fun h => absurd (of_decide_eq_true h) (by omega)), ff_e (by omega)]); rw [hz.1, hz.2.1, hz.2.2, hk8]; rfl))
    · skip
      have hl1 := lk_bd (B := (fun x9 => g 5 (60 * t + x9))) (fun j => HB (60 * t + j)) (g 4 t) ((sk (fun x9 => g 5 (60 * t + x9)) (g 4 t) pl + 1) + k)
      have hcs : rD (fun x9 => g 5 (60 * t + x9)) (g 4 t) 97 6 1 (sk (fun x9 => g 5 (60 * t + x9)) (g 4 t) pl + 1) Dr k.toNat 1 = k := rD_0 _ _ _ _ _ _ _ hD (by omega)
      refine v_aload_n C 1 dX5_readsTurns_37 rfl ?_
      refine v_iload_n C 2 dX5_readsTurns_38 rfl ?_
      refine v_cV_i C (As := [.int (iI (t))]) (rest := []) (c_X5_look l D yc t1 t2 a A g t (rD (fun x9 => g 5 (60 * t + x9)) (g 4 t) 97 6 1 (sk (fun x9 => g 5 (60 * t + x9)) (g 4 t) pl + 1) Dr k.toNat) ((sk (fun x9 => g 5 (60 * t + x9)) (g 4 t) pl + 1) + k) 1 (by omega) (by omega) HB (by omega)) (cwV 1 C.hts gX5_readsTurns_X5_look rfl rfl rfl (by decide +kernel) ⟨by decide, by decide⟩) (fun H hP => va_recv C.hK hP (ci := 5) (q0 := (0 : Int).toNat) rfl (wo_is (by omega) (by omega) ct_mod)) rfl rfl (Nat.le_of_ble_eq_true rfl) dX5_readsTurns_39 ?_
      intro r9 g9 h9
      rw [h9.1, h9.2]
      clear h9 g9 r9
      try dsimp only
      refine v_istore_n (lv' := [(3, .int (iI (lk (fun x9 => g 5 (60 * t + x9)) (g 4 t) ((sk (fun x9 => g 5 (60 * t + x9)) (g 4 t) pl + 1) + k)))), (2, .int (iI (y))), (0, .ref (a (0))), (1, .int (iI (t)))]) C dX5_readsTurns_42 (by decide) rfl ?_
      refine v_aload_n C 2 dX5_readsTurns_43 rfl ?_
      refine v_aload_n C 2 dX5_readsTurns_44 rfl ?_
      refine v_getf C (by omega) (by omega) ct_mod rfl 6 (by decide) wf28 hinX5 rfl dX5_readsTurns_45 ?_
      refine v_iconst C dX5_readsTurns_48 ?_
      refine v_iaload C (by omega) (by omega) ct_mdraft (by omega) (by omega) (by decide) dX5_readsTurns_49 ?_
      refine v_st (st' := [.int (iI ((rD (fun x9 => g 5 (60 * t + x9)) (g 4 t) 97 6 1 (sk (fun x9 => g 5 (60 * t + x9)) (g 4 t) pl + 1) Dr k.toNat) (1))), .ref (a (0))]) (by rw [pS_D]) ?_
      refine v_st (st' := [.int (iI (k)), .ref (a (0))]) (by rw [hcs]) ?_
      refine v_bipush C dX5_readsTurns_50 (by decide) ?_
      refine v_icmp_ge (tgt := 70) C dX5_readsTurns_52 (by decide) (by omega) (by omega) (fun c52 => ?_) (fun c52 => ?_)
      · skip
        refine v_iconst C dX5_readsTurns_70 ?_
        refine v_cV_v C (As := [.int (iI (0))]) (rest := []) (c_X5_takes l D yc t1 t2 a A g 0 (rD (fun x9 => g 5 (60 * t + x9)) (g 4 t) 97 6 1 (sk (fun x9 => g 5 (60 * t + x9)) (g 4 t) pl + 1) Dr k.toNat) ((sk (fun x9 => g 5 (60 * t + x9)) (g 4 t) pl + 1) + k) 1 (Or.inr rfl) (by omega)) (cwV 1 C.hts gX5_readsTurns_X5_takes rfl rfl rfl (by decide +kernel) ⟨by decide, by decide⟩) (fun H hP => va_recv C.hK hP (ci := 5) (q0 := (0 : Int).toNat) rfl (wo_is (by omega) (by omega) ct_mod)) rfl rfl (Nat.le_of_ble_eq_true rfl) dX5_readsTurns_71 ?_
        intro g9 h9
        rw [h9]
        clear h9 g9
        try dsimp only
        refine v_g (g' := (pS g ((rD (fun x9 => g 5 (60 * t + x9)) (g 4 t) 97 6 1 (sk (fun x9 => g 5 (60 * t + x9)) (g 4 t) pl + 1) Dr k.toNat)) ((sk (fun x9 => g 5 (60 * t + x9)) (g 4 t) pl + 1) + k) 0)) (by rw [an_10, Int.add_zero]) ?_
        refine v_aload_n C 2 dX5_readsTurns_74 rfl ?_
        refine v_getf C (by omega) (by omega) ct_mod rfl 16 (by decide) wf90 hinX5 rfl dX5_readsTurns_75 ?_
        refine v_st (st' := [.int (iI (0))]) (by rw [pS_w]) ?_
        refine v_if_eq (tgt := 109) C dX5_readsTurns_78 (by decide) (by decide) (fun _ => ?_) (fun h9 => absurd h9 (by decide))
        refine v_aload_n C 2 dX5_readsTurns_109 rfl ?_
        have hl2 := lk_32 (B := (fun x9 => g 5 (60 * t + x9))) (L := (g 4 t)) (p := (sk (fun x9 => g 5 (60 * t + x9)) (g 4 t) pl + 1) + k)
        have hl3 := lk_bd (B := (fun x9 => g 5 (60 * t + x9))) (fun j => HB (60 * t + j)) (g 4 t) ((sk (fun x9 => g 5 (60 * t + x9)) (g 4 t) pl + 1) + k + 1)
        have hl4 := lk_bd (B := (fun x9 => g 5 (60 * t + x9))) (fun j => HB (60 * t + j)) (g 4 t) ((sk (fun x9 => g 5 (60 * t + x9)) (g 4 t) pl + 1) + k)
        refine v_iload_n C 3 dX5_readsTurns_110 rfl ?_
        refine v_cV_i C (As := [.int (iI (t))]) (rest := []) (c_X5_look l D yc t1 t2 a A g t ((rD (fun x9 => g 5 (60 * t + x9)) (g 4 t) 97 6 1 (sk (fun x9 => g 5 (60 * t + x9)) (g 4 t) pl + 1) Dr k.toNat)) ((sk (fun x9 => g 5 (60 * t + x9)) (g 4 t) pl + 1) + k) 0 (by omega) (by omega) HB (by omega)) (cwV 1 C.hts gX5_readsTurns_X5_look rfl rfl rfl (by decide +kernel) ⟨by decide, by decide⟩) (fun H hP => va_recv C.hK hP (ci := 5) (q0 := (0 : Int).toNat) rfl (wo_is (by omega) (by omega) ct_mod)) rfl rfl (Nat.le_of_ble_eq_true rfl) dX5_readsTurns_111 ?_
        intro r9 g9 h9
        rw [h9.1, h9.2]
        clear h9 g9 r9
        try dsimp only
        refine v_bipush C dX5_readsTurns_114 (by decide) ?_
        refine v_bipush C dX5_readsTurns_116 (by decide) ?_
        refine v_cS_i C (As := [.int (iI (lk (fun x9 => g 5 (60 * t + x9)) (g 4 t) ((sk (fun x9 => g 5 (60 * t + x9)) (g 4 t) pl + 1) + k))), .int (iI (97)), .int (iI (98))]) (rest := []) (c_X5_in l D yc t1 t2 A (mw a yc) (pS g ((rD (fun x9 => g 5 (60 * t + x9)) (g 4 t) 97 6 1 (sk (fun x9 => g 5 (60 * t + x9)) (g 4 t) pl + 1) Dr k.toNat)) ((sk (fun x9 => g 5 (60 * t + x9)) (g 4 t) pl + 1) + k) 0) (lk (fun x9 => g 5 (60 * t + x9)) (g 4 t) ((sk (fun x9 => g 5 (60 * t + x9)) (g 4 t) pl + 1) + k)) 97 98 (by omega) (by omega) (by omega)) (va_cwS 3 C.hts gX5_readsTurns_X5_in rfl rfl rfl (by decide +kernel) ⟨by decide, by decide⟩) rfl rfl (Nat.le_of_ble_eq_true rfl) dX5_readsTurns_118 ?_
        intro r9 g9 h9
        rw [h9.1, h9.2]
        clear h9 g9 r9
        try dsimp only
        refine v_st (st' := [.int (iI (bZ (97 ≤ (lk (fun x9 => g 5 (60 * t + x9)) (g 4 t) ((sk (fun x9 => g 5 (60 * t + x9)) (g 4 t) pl + 1) + k)) ∧ (lk (fun x9 => g 5 (60 * t + x9)) (g 4 t) ((sk (fun x9 => g 5 (60 * t + x9)) (g 4 t) pl + 1) + k)) ≤ 98)))]) (by rw [bI_Z]) ?_
        refine v_istore_n (lv' := [(2, .int (iI (bZ (97 ≤ (lk (fun x9 => g 5 (60 * t + x9)) (g 4 t) ((sk (fun x9 => g 5 (60 * t + x9)) (g 4 t) pl + 1) + k)) ∧ (lk (fun x9 => g 5 (60 * t + x9)) (g 4 t) ((sk (fun x9 => g 5 (60 * t + x9)) (g 4 t) pl + 1) + k)) ≤ 98)))), (3, .int (iI (lk (fun x9 => g 5 (60 * t + x9)) (g 4 t) ((sk (fun x9 => g 5 (60 * t + x9)) (g 4 t) pl + 1) + k)))), (0, .ref (a (0))), (1, .int (iI (t)))]) C dX5_readsTurns_121 (by decide) rfl ?_
        refine v_goto (tgt := 26) C dX5_readsTurns_122 (by decide) ?_
        refine v_aload_n C 2 dX5_readsTurns_26 rfl ?_
        refine v_getf C (by omega) (by omega) ct_mod rfl 16 (by decide) wf90 hinX5 rfl dX5_readsTurns_27 ?_
        refine v_st (st' := [.int (iI (0))]) (by rw [pS_w]) ?_
        refine v_if_eq (tgt := 125) C dX5_readsTurns_30 (by decide) (by decide) (fun _ => ?_) (fun h9 => absurd h9 (by decide))
        exact v_ret_v C rfl dX5_readsTurns_125 (by first | (have hz := it_n (B := (fun x9 => g 5 (60 * t + x9))) (L := (g 4 t)) (c := 116) (lo := 97) (hi := 98) (bs := 6) (cs := 1) (p := pl) (mx := 8) (D := Dr) c13; rw [hz.1, hz.2.1, hz.2.2]) | (have hz := it_y (B := (fun x9 => g 5 (60 * t + x9))) (L := (g 4 t)) (c := 116) (lo := 97) (hi := 98) (bs := 6) (cs := 1) (p := pl) (k := k) (mx := 8) (D := Dr) c13 (by omega) (by omega) (by rw [← hI26.2.2.2.2.2.2]; exact ff_y (by omega) (decide_eq_true (by omega))); rw [hz.1, hz.2.1, hz.2.2]) | (have hk0 : k = 0 := (by omega); have hz := it_0 (B := (fun x9 => g 5 (60 * t + x9))) (L := (g 4 t)) (c := 116) (lo := 97) (hi := 98) (bs := 6) (cs := 1) (p := pl) (mx := 8) (D := Dr) c13 (by omega) (by rw [← hI26.2.2.2.2.2.2, hk0, Int.add_zero]; exact ff_y (by omega) (decide_eq_true (by have hc := c63; rw [hk0, Int.add_zero] at hc; exact hc))); rw [hz.1, hz.2.1, hz.2.2, hk0, Int.add_zero]; rfl) | (have hk8 : k = 8 := (by omega); have hz := it_m (B := (fun x9 => g 5 (60 * t + x9))) (L := (g 4 t)) (c := 116) (lo := 97) (hi := 98) (bs := 6) (cs := 1) (p := pl) (mx := 8) (D := Dr) c13 (by rw [← hI26.2.2.2.2.2.2, ff_n (by omega) (fun h => absurd (of_decide_eq_true h) (by omega)), ff_e (by omega)]); rw [hz.1, hz.2.1, hz.2.2, hk8]; rfl))
      · skip
        refine v_iload_n C 0 dX5_readsTurns_55 rfl ?_
        refine v_bipush C dX5_readsTurns_56 (by decide) ?_
        refine v_bipush C dX5_readsTurns_58 (by decide) ?_
        refine v_cS_i C (As := [.int (iI (lk (fun x9 => g 5 (60 * t + x9)) (g 4 t) ((sk (fun x9 => g 5 (60 * t + x9)) (g 4 t) pl + 1) + k))), .int (iI (97)), .int (iI (98))]) (rest := [.ref (a (0))]) (c_X5_in l D yc t1 t2 A (mw a yc) (pS g (rD (fun x9 => g 5 (60 * t + x9)) (g 4 t) 97 6 1 (sk (fun x9 => g 5 (60 * t + x9)) (g 4 t) pl + 1) Dr k.toNat) ((sk (fun x9 => g 5 (60 * t + x9)) (g 4 t) pl + 1) + k) 1) (lk (fun x9 => g 5 (60 * t + x9)) (g 4 t) ((sk (fun x9 => g 5 (60 * t + x9)) (g 4 t) pl + 1) + k)) 97 98 (by omega) (by omega) (by omega)) (va_cwS 3 C.hts gX5_readsTurns_X5_in rfl rfl rfl (by decide +kernel) ⟨by decide, by decide⟩) rfl rfl (Nat.le_of_ble_eq_true rfl) dX5_readsTurns_60 ?_
        intro r9 g9 h9
        rw [h9.1, h9.2]
        clear h9 g9 r9
        try dsimp only
        refine v_ifb_eq (tgt := 70) C dX5_readsTurns_63 (by decide) (fun c63 => ?_) (fun c63 => ?_)
        · skip
          refine v_iconst C dX5_readsTurns_70 ?_
          refine v_cV_v C (As := [.int (iI (0))]) (rest := []) (c_X5_takes l D yc t1 t2 a A g 0 (rD (fun x9 => g 5 (60 * t + x9)) (g 4 t) 97 6 1 (sk (fun x9 => g 5 (60 * t + x9)) (g 4 t) pl + 1) Dr k.toNat) ((sk (fun x9 => g 5 (60 * t + x9)) (g 4 t) pl + 1) + k) 1 (Or.inr rfl) (by omega)) (cwV 1 C.hts gX5_readsTurns_X5_takes rfl rfl rfl (by decide +kernel) ⟨by decide, by decide⟩) (fun H hP => va_recv C.hK hP (ci := 5) (q0 := (0 : Int).toNat) rfl (wo_is (by omega) (by omega) ct_mod)) rfl rfl (Nat.le_of_ble_eq_true rfl) dX5_readsTurns_71 ?_
          intro g9 h9
          rw [h9]
          clear h9 g9
          try dsimp only
          refine v_g (g' := (pS g ((rD (fun x9 => g 5 (60 * t + x9)) (g 4 t) 97 6 1 (sk (fun x9 => g 5 (60 * t + x9)) (g 4 t) pl + 1) Dr k.toNat)) ((sk (fun x9 => g 5 (60 * t + x9)) (g 4 t) pl + 1) + k) 0)) (by rw [an_10, Int.add_zero]) ?_
          refine v_aload_n C 2 dX5_readsTurns_74 rfl ?_
          refine v_getf C (by omega) (by omega) ct_mod rfl 16 (by decide) wf90 hinX5 rfl dX5_readsTurns_75 ?_
          refine v_st (st' := [.int (iI (0))]) (by rw [pS_w]) ?_
          refine v_if_eq (tgt := 109) C dX5_readsTurns_78 (by decide) (by decide) (fun _ => ?_) (fun h9 => absurd h9 (by decide))
          refine v_aload_n C 2 dX5_readsTurns_109 rfl ?_
          have hl2 := lk_32 (B := (fun x9 => g 5 (60 * t + x9))) (L := (g 4 t)) (p := (sk (fun x9 => g 5 (60 * t + x9)) (g 4 t) pl + 1) + k)
          have hl3 := lk_bd (B := (fun x9 => g 5 (60 * t + x9))) (fun j => HB (60 * t + j)) (g 4 t) ((sk (fun x9 => g 5 (60 * t + x9)) (g 4 t) pl + 1) + k + 1)
          have hl4 := lk_bd (B := (fun x9 => g 5 (60 * t + x9))) (fun j => HB (60 * t + j)) (g 4 t) ((sk (fun x9 => g 5 (60 * t + x9)) (g 4 t) pl + 1) + k)
          refine v_iload_n C 3 dX5_readsTurns_110 rfl ?_
          refine v_cV_i C (As := [.int (iI (t))]) (rest := []) (c_X5_look l D yc t1 t2 a A g t ((rD (fun x9 => g 5 (60 * t + x9)) (g 4 t) 97 6 1 (sk (fun x9 => g 5 (60 * t + x9)) (g 4 t) pl + 1) Dr k.toNat)) ((sk (fun x9 => g 5 (60 * t + x9)) (g 4 t) pl + 1) + k) 0 (by omega) (by omega) HB (by omega)) (cwV 1 C.hts gX5_readsTurns_X5_look rfl rfl rfl (by decide +kernel) ⟨by decide, by decide⟩) (fun H hP => va_recv C.hK hP (ci := 5) (q0 := (0 : Int).toNat) rfl (wo_is (by omega) (by omega) ct_mod)) rfl rfl (Nat.le_of_ble_eq_true rfl) dX5_readsTurns_111 ?_
          intro r9 g9 h9
          rw [h9.1, h9.2]
          clear h9 g9 r9
          try dsimp only
          refine v_bipush C dX5_readsTurns_114 (by decide) ?_
          refine v_bipush C dX5_readsTurns_116 (by decide) ?_
          refine v_cS_i C (As := [.int (iI (lk (fun x9 => g 5 (60 * t + x9)) (g 4 t) ((sk (fun x9 => g 5 (60 * t + x9)) (g 4 t) pl + 1) + k))), .int (iI (97)), .int (iI (98))]) (rest := []) (c_X5_in l D yc t1 t2 A (mw a yc) (pS g ((rD (fun x9 => g 5 (60 * t + x9)) (g 4 t) 97 6 1 (sk (fun x9 => g 5 (60 * t + x9)) (g 4 t) pl + 1) Dr k.toNat)) ((sk (fun x9 => g 5 (60 * t + x9)) (g 4 t) pl + 1) + k) 0) (lk (fun x9 => g 5 (60 * t + x9)) (g 4 t) ((sk (fun x9 => g 5 (60 * t + x9)) (g 4 t) pl + 1) + k)) 97 98 (by omega) (by omega) (by omega)) (va_cwS 3 C.hts gX5_readsTurns_X5_in rfl rfl rfl (by decide +kernel) ⟨by decide, by decide⟩) rfl rfl (Nat.le_of_ble_eq_true rfl) dX5_readsTurns_118 ?_
          intro r9 g9 h9
          rw [h9.1, h9.2]
          clear h9 g9 r9
          try dsimp only
          refine v_st (st' := [.int (iI (bZ (97 ≤ (lk (fun x9 => g 5 (60 * t + x9)) (g 4 t) ((sk (fun x9 => g 5 (60 * t + x9)) (g 4 t) pl + 1) + k)) ∧ (lk (fun x9 => g 5 (60 * t + x9)) (g 4 t) ((sk (fun x9 => g 5 (60 * t + x9)) (g 4 t) pl + 1) + k)) ≤ 98)))]) (by rw [bI_Z]) ?_
          refine v_istore_n (lv' := [(2, .int (iI (bZ (97 ≤ (lk (fun x9 => g 5 (60 * t + x9)) (g 4 t) ((sk (fun x9 => g 5 (60 * t + x9)) (g 4 t) pl + 1) + k)) ∧ (lk (fun x9 => g 5 (60 * t + x9)) (g 4 t) ((sk (fun x9 => g 5 (60 * t + x9)) (g 4 t) pl + 1) + k)) ≤ 98)))), (3, .int (iI (lk (fun x9 => g 5 (60 * t + x9)) (g 4 t) ((sk (fun x9 => g 5 (60 * t + x9)) (g 4 t) pl + 1) + k)))), (0, .ref (a (0))), (1, .int (iI (t)))]) C dX5_readsTurns_121 (by decide) rfl ?_
          refine v_goto (tgt := 26) C dX5_readsTurns_122 (by decide) ?_
          refine v_aload_n C 2 dX5_readsTurns_26 rfl ?_
          refine v_getf C (by omega) (by omega) ct_mod rfl 16 (by decide) wf90 hinX5 rfl dX5_readsTurns_27 ?_
          refine v_st (st' := [.int (iI (0))]) (by rw [pS_w]) ?_
          refine v_if_eq (tgt := 125) C dX5_readsTurns_30 (by decide) (by decide) (fun _ => ?_) (fun h9 => absurd h9 (by decide))
          exact v_ret_v C rfl dX5_readsTurns_125 (by first | (have hz := it_n (B := (fun x9 => g 5 (60 * t + x9))) (L := (g 4 t)) (c := 116) (lo := 97) (hi := 98) (bs := 6) (cs := 1) (p := pl) (mx := 8) (D := Dr) c13; rw [hz.1, hz.2.1, hz.2.2]) | (have hz := it_y (B := (fun x9 => g 5 (60 * t + x9))) (L := (g 4 t)) (c := 116) (lo := 97) (hi := 98) (bs := 6) (cs := 1) (p := pl) (k := k) (mx := 8) (D := Dr) c13 (by omega) (by omega) (by rw [← hI26.2.2.2.2.2.2]; exact ff_y (by omega) (decide_eq_true (by omega))); rw [hz.1, hz.2.1, hz.2.2]) | (have hk0 : k = 0 := (by omega); have hz := it_0 (B := (fun x9 => g 5 (60 * t + x9))) (L := (g 4 t)) (c := 116) (lo := 97) (hi := 98) (bs := 6) (cs := 1) (p := pl) (mx := 8) (D := Dr) c13 (by omega) (by rw [← hI26.2.2.2.2.2.2, hk0, Int.add_zero]; exact ff_y (by omega) (decide_eq_true (by have hc := c63; rw [hk0, Int.add_zero] at hc; exact hc))); rw [hz.1, hz.2.1, hz.2.2, hk0, Int.add_zero]; rfl) | (have hk8 : k = 8 := (by omega); have hz := it_m (B := (fun x9 => g 5 (60 * t + x9))) (L := (g 4 t)) (c := 116) (lo := 97) (hi := 98) (bs := 6) (cs := 1) (p := pl) (mx := 8) (D := Dr) c13 (by rw [← hI26.2.2.2.2.2.2, ff_n (by omega) (fun h => absurd (of_decide_eq_true h) (by omega)), ff_e (by omega)]); rw [hz.1, hz.2.1, hz.2.2, hk8]; rfl))
        · skip
          refine v_iconst C dX5_readsTurns_66 ?_
          refine v_goto (tgt := 71) C dX5_readsTurns_67 (by decide) ?_
          refine v_cV_v C (As := [.int (iI (1))]) (rest := []) (c_X5_takes l D yc t1 t2 a A g 1 (rD (fun x9 => g 5 (60 * t + x9)) (g 4 t) 97 6 1 (sk (fun x9 => g 5 (60 * t + x9)) (g 4 t) pl + 1) Dr k.toNat) ((sk (fun x9 => g 5 (60 * t + x9)) (g 4 t) pl + 1) + k) 1 (Or.inr rfl) (by omega)) (cwV 1 C.hts gX5_readsTurns_X5_takes rfl rfl rfl (by decide +kernel) ⟨by decide, by decide⟩) (fun H hP => va_recv C.hK hP (ci := 5) (q0 := (0 : Int).toNat) rfl (wo_is (by omega) (by omega) ct_mod)) rfl rfl (Nat.le_of_ble_eq_true rfl) dX5_readsTurns_71 ?_
          intro g9 h9
          rw [h9]
          clear h9 g9
          try dsimp only
          refine v_g (g' := (pS g ((rD (fun x9 => g 5 (60 * t + x9)) (g 4 t) 97 6 1 (sk (fun x9 => g 5 (60 * t + x9)) (g 4 t) pl + 1) Dr k.toNat)) ((sk (fun x9 => g 5 (60 * t + x9)) (g 4 t) pl + 1) + k + 1) 1)) (by rw [an_11]) ?_
          refine v_aload_n C 2 dX5_readsTurns_74 rfl ?_
          refine v_getf C (by omega) (by omega) ct_mod rfl 16 (by decide) wf90 hinX5 rfl dX5_readsTurns_75 ?_
          refine v_st (st' := [.int (iI (1))]) (by rw [pS_w]) ?_
          refine v_if_eq (tgt := 109) C dX5_readsTurns_78 (by decide) (by decide) (fun h9 => absurd h9 (by decide)) (fun _ => ?_)
          refine v_aload_n C 2 dX5_readsTurns_81 rfl ?_
          refine v_getf C (by omega) (by omega) ct_mod rfl 6 (by decide) wf28 hinX5 rfl dX5_readsTurns_82 ?_
          refine v_bipush C dX5_readsTurns_85 (by decide) ?_
          refine v_aload_n C 2 dX5_readsTurns_87 rfl ?_
          refine v_getf C (by omega) (by omega) ct_mod rfl 6 (by decide) wf28 hinX5 rfl dX5_readsTurns_88 ?_
          refine v_iconst C dX5_readsTurns_91 ?_
          refine v_iaload C (by omega) (by omega) ct_mdraft (by omega) (by omega) (by decide) dX5_readsTurns_92 ?_
          refine v_st (st' := [.int (iI (((rD (fun x9 => g 5 (60 * t + x9)) (g 4 t) 97 6 1 (sk (fun x9 => g 5 (60 * t + x9)) (g 4 t) pl + 1) Dr k.toNat)) (1))), .int (iI (6)), .ref (a (7))]) (by rw [pS_D]) ?_
          refine v_st (st' := [.int (iI (k)), .int (iI (6)), .ref (a (7))]) (by rw [hcs]) ?_
          refine v_iadd C dX5_readsTurns_93 ?_
          refine v_iload_n C 0 dX5_readsTurns_94 rfl ?_
          refine v_bipush C dX5_readsTurns_95 (by decide) ?_
          refine v_isub C dX5_readsTurns_97 ?_
          refine v_iastore C (ctm_L a yc) (by omega) (by omega) ct_mdraft (ct_mdraft).symm (by omega) (by omega) (by decide) dX5_readsTurns_98 ?_
          refine v_g (g' := (pS g (fu ((rD (fun x9 => g 5 (60 * t + x9)) (g 4 t) 97 6 1 (sk (fun x9 => g 5 (60 * t + x9)) (g 4 t) pl + 1) Dr k.toNat)) (6 + k) ((lk (fun x9 => g 5 (60 * t + x9)) (g 4 t) ((sk (fun x9 => g 5 (60 * t + x9)) (g 4 t) pl + 1) + k)) - 97)) ((sk (fun x9 => g 5 (60 * t + x9)) (g 4 t) pl + 1) + k + 1) 1)) (pS_3 _ _ _ _ _ _) ?_
          refine v_aload_n C 2 dX5_readsTurns_99 rfl ?_
          refine v_getf C (by omega) (by omega) ct_mod rfl 6 (by decide) wf28 hinX5 rfl dX5_readsTurns_100 ?_
          refine v_iconst C dX5_readsTurns_103 ?_
          refine v_dup2 C dX5_readsTurns_104 rfl rfl ?_
          refine v_iaload C (by omega) (by omega) ct_mdraft (by omega) (by omega) (by decide) dX5_readsTurns_105 ?_
          refine v_st (st' := [.int (iI ((fu ((rD (fun x9 => g 5 (60 * t + x9)) (g 4 t) 97 6 1 (sk (fun x9 => g 5 (60 * t + x9)) (g 4 t) pl + 1) Dr k.toNat)) (6 + k) ((lk (fun x9 => g 5 (60 * t + x9)) (g 4 t) ((sk (fun x9 => g 5 (60 * t + x9)) (g 4 t) pl + 1) + k)) - 97)) (1))), .int (iI (1)), .ref (a (7))]) (by rw [pS_D]) ?_
          refine v_st (st' := [.int (iI (k)), .int (iI (1)), .ref (a (7))]) (by rw [fu_ne (by omega), hcs]) ?_
          refine v_iconst C dX5_readsTurns_106 ?_
          refine v_iadd C dX5_readsTurns_107 ?_
          refine v_iastore C (ctm_L a yc) (by omega) (by omega) ct_mdraft (ct_mdraft).symm (by omega) (by omega) (by decide) dX5_readsTurns_108 ?_
          refine v_g (g' := (pS g (fu (fu ((rD (fun x9 => g 5 (60 * t + x9)) (g 4 t) 97 6 1 (sk (fun x9 => g 5 (60 * t + x9)) (g 4 t) pl + 1) Dr k.toNat)) (6 + k) ((lk (fun x9 => g 5 (60 * t + x9)) (g 4 t) ((sk (fun x9 => g 5 (60 * t + x9)) (g 4 t) pl + 1) + k)) - 97)) 1 (k + 1)) ((sk (fun x9 => g 5 (60 * t + x9)) (g 4 t) pl + 1) + k + 1) 1)) (pS_3 _ _ _ _ _ _) ?_
          refine v_aload_n C 2 dX5_readsTurns_109 rfl ?_
          have hl2 := lk_32 (B := (fun x9 => g 5 (60 * t + x9))) (L := (g 4 t)) (p := (sk (fun x9 => g 5 (60 * t + x9)) (g 4 t) pl + 1) + k)
          have hl3 := lk_bd (B := (fun x9 => g 5 (60 * t + x9))) (fun j => HB (60 * t + j)) (g 4 t) ((sk (fun x9 => g 5 (60 * t + x9)) (g 4 t) pl + 1) + k + 1)
          have hl4 := lk_bd (B := (fun x9 => g 5 (60 * t + x9))) (fun j => HB (60 * t + j)) (g 4 t) ((sk (fun x9 => g 5 (60 * t + x9)) (g 4 t) pl + 1) + k)
          refine v_iload_n C 3 dX5_readsTurns_110 rfl ?_
          refine v_cV_i C (As := [.int (iI (t))]) (rest := []) (c_X5_look l D yc t1 t2 a A g t (fu (fu ((rD (fun x9 => g 5 (60 * t + x9)) (g 4 t) 97 6 1 (sk (fun x9 => g 5 (60 * t + x9)) (g 4 t) pl + 1) Dr k.toNat)) (6 + k) ((lk (fun x9 => g 5 (60 * t + x9)) (g 4 t) ((sk (fun x9 => g 5 (60 * t + x9)) (g 4 t) pl + 1) + k)) - 97)) 1 (k + 1)) ((sk (fun x9 => g 5 (60 * t + x9)) (g 4 t) pl + 1) + k + 1) 1 (by omega) (by omega) HB (by omega)) (cwV 1 C.hts gX5_readsTurns_X5_look rfl rfl rfl (by decide +kernel) ⟨by decide, by decide⟩) (fun H hP => va_recv C.hK hP (ci := 5) (q0 := (0 : Int).toNat) rfl (wo_is (by omega) (by omega) ct_mod)) rfl rfl (Nat.le_of_ble_eq_true rfl) dX5_readsTurns_111 ?_
          intro r9 g9 h9
          rw [h9.1, h9.2]
          clear h9 g9 r9
          try dsimp only
          refine v_bipush C dX5_readsTurns_114 (by decide) ?_
          refine v_bipush C dX5_readsTurns_116 (by decide) ?_
          refine v_cS_i C (As := [.int (iI (lk (fun x9 => g 5 (60 * t + x9)) (g 4 t) ((sk (fun x9 => g 5 (60 * t + x9)) (g 4 t) pl + 1) + k + 1))), .int (iI (97)), .int (iI (98))]) (rest := []) (c_X5_in l D yc t1 t2 A (mw a yc) (pS g (fu (fu ((rD (fun x9 => g 5 (60 * t + x9)) (g 4 t) 97 6 1 (sk (fun x9 => g 5 (60 * t + x9)) (g 4 t) pl + 1) Dr k.toNat)) (6 + k) ((lk (fun x9 => g 5 (60 * t + x9)) (g 4 t) ((sk (fun x9 => g 5 (60 * t + x9)) (g 4 t) pl + 1) + k)) - 97)) 1 (k + 1)) ((sk (fun x9 => g 5 (60 * t + x9)) (g 4 t) pl + 1) + k + 1) 1) (lk (fun x9 => g 5 (60 * t + x9)) (g 4 t) ((sk (fun x9 => g 5 (60 * t + x9)) (g 4 t) pl + 1) + k + 1)) 97 98 (by omega) (by omega) (by omega)) (va_cwS 3 C.hts gX5_readsTurns_X5_in rfl rfl rfl (by decide +kernel) ⟨by decide, by decide⟩) rfl rfl (Nat.le_of_ble_eq_true rfl) dX5_readsTurns_118 ?_
          intro r9 g9 h9
          rw [h9.1, h9.2]
          clear h9 g9 r9
          try dsimp only
          refine v_st (st' := [.int (iI (bZ (97 ≤ (lk (fun x9 => g 5 (60 * t + x9)) (g 4 t) ((sk (fun x9 => g 5 (60 * t + x9)) (g 4 t) pl + 1) + k + 1)) ∧ (lk (fun x9 => g 5 (60 * t + x9)) (g 4 t) ((sk (fun x9 => g 5 (60 * t + x9)) (g 4 t) pl + 1) + k + 1)) ≤ 98)))]) (by rw [bI_Z]) ?_
          refine v_istore_n (lv' := [(2, .int (iI (bZ (97 ≤ (lk (fun x9 => g 5 (60 * t + x9)) (g 4 t) ((sk (fun x9 => g 5 (60 * t + x9)) (g 4 t) pl + 1) + k + 1)) ∧ (lk (fun x9 => g 5 (60 * t + x9)) (g 4 t) ((sk (fun x9 => g 5 (60 * t + x9)) (g 4 t) pl + 1) + k + 1)) ≤ 98)))), (3, .int (iI (lk (fun x9 => g 5 (60 * t + x9)) (g 4 t) ((sk (fun x9 => g 5 (60 * t + x9)) (g 4 t) pl + 1) + k)))), (0, .ref (a (0))), (1, .int (iI (t)))]) C dX5_readsTurns_121 (by decide) rfl ?_
          refine v_goto (tgt := 26) C dX5_readsTurns_122 (by decide) ?_
          refine v_sub (lv' := [(2, .int (iI (bZ (97 ≤ (lk (fun x9 => g 5 (60 * t + x9)) (g 4 t) ((sk (fun x9 => g 5 (60 * t + x9)) (g 4 t) pl + 1) + k + 1)) ∧ (lk (fun x9 => g 5 (60 * t + x9)) (g 4 t) ((sk (fun x9 => g 5 (60 * t + x9)) (g 4 t) pl + 1) + k + 1)) ≤ 98)))), (0, .ref (a (0))), (1, .int (iI (t)))]) [0, 2, 3] rfl ?_
          exact v_g (by rw [rD_s _ _ _ _ _ _ _ (by omega), ← Int.add_assoc]) (ih26 (bZ (97 ≤ (lk (fun x9 => g 5 (60 * t + x9)) (g 4 t) ((sk (fun x9 => g 5 (60 * t + x9)) (g 4 t) pl + 1) + k + 1)) ∧ (lk (fun x9 => g 5 (60 * t + x9)) (g 4 t) ((sk (fun x9 => g 5 (60 * t + x9)) (g 4 t) pl + 1) + k + 1)) ≤ 98)) (k + 1) ⟨by omega, by omega, by omega, bZ_01 _, by omega, fun _ => by rw [← Int.add_assoc]; exact bZ_1 _, by rw [← hI26.2.2.2.2.2.2, ← Int.add_assoc]; exact (ff_n (by omega) (fun h => absurd (of_decide_eq_true h) (by omega))).symm⟩ (by omega))

set_option maxRecDepth 100000 in
set_option maxHeartbeats 4000000 in
theorem c_X5_readsMilk (l : Launch) (D : va_G) (yc : Nat → ClassId) (t1 t2 : Nat) (a : Int → Nat) (A : Nat → Prop) (g : Mm) (t : Int) (Dr : Int → Int) (pl : Int) (ht : 0 ≤ t ∧ t < 4) (hL : -1 ≤ g 4 t ∧ g 4 t ≤ 60) (HB : ∀ j, -128 ≤ g 5 j ∧ g 5 j ≤ 127) (hp : 0 ≤ pl ∧ pl ≤ 60) (hD : Dr 2 = 0) : Cv l yX5_readsMilk wsX5_readsMilk { frames := 2, cells := 0, slots := 0, locals := 42 } D yc t1 t2 A (mw a yc) [.ref (a (0)), .int (iI (t))] (pS g Dr pl 1) (fun g' => g' = (pS g (iD (fun x9 => g 5 (60 * t + x9)) (g 4 t) 109 48 57 14 2 6 pl Dr) (iP (fun x9 => g 5 (60 * t + x9)) (g 4 t) 109 48 57 6 pl) (iW (fun x9 => g 5 (60 * t + x9)) (g 4 t) 109 48 57 6 pl))) := by
  refine start_v (cc := cX5_readsMilk) (nL := 4) (ret := none) (own := RX5) (by decide +kernel) rfl rfl (Nat.le_of_ble_eq_true rfl) ?_
  intro p e s m9 below meth c9 C
  have wf90 : Cond.fieldLink RX5 90 (TX5 16).1 (TX5 16).2.1 (TX5 16).2.2.1 ∈ wsX5_readsMilk := by decide +kernel
  have hinX5 : ∀ w ∈ u_ws RX5 TX5 17, w ∈ wsX5_readsMilk := by decide +kernel
  have wf28 : Cond.fieldLink RX5 28 (TX5 6).1 (TX5 6).2.1 (TX5 6).2.2.1 ∈ wsX5_readsMilk := by decide +kernel
  have hsr := sk_r (fun x9 => g 5 (60 * t + x9)) (L := (g 4 t)) (p := pl) (by omega) (by omega)
  have hl0 := lk_bd (B := (fun x9 => g 5 (60 * t + x9))) (fun j => HB (60 * t + j)) (g 4 t) (sk (fun x9 => g 5 (60 * t + x9)) (g 4 t) pl)
  refine v_lv (lv' := [(0, .ref (a (0))), (1, .int (iI (t)))]) rfl ?_
  refine v_aload_n C 0 dX5_readsMilk_0 rfl ?_
  refine v_iload_n C 1 dX5_readsMilk_1 rfl ?_
  refine v_cV_v C (As := [.int (iI (t))]) (rest := []) (c_X5_skips l D yc t1 t2 a A g t Dr pl 1 (by omega) (by omega) HB (by omega)) (cwV 1 C.hts gX5_readsMilk_X5_skips rfl rfl rfl (by decide +kernel) ⟨by decide, by decide⟩) (fun H hP => va_recv C.hK hP (ci := 5) (q0 := (0 : Int).toNat) rfl (wo_is (by omega) (by omega) ct_mod)) rfl rfl (Nat.le_of_ble_eq_true rfl) dX5_readsMilk_2 ?_
  intro g9 h9
  rw [h9]
  clear h9 g9
  try dsimp only
  refine v_aload_n C 0 dX5_readsMilk_5 rfl ?_
  refine v_aload_n C 0 dX5_readsMilk_6 rfl ?_
  refine v_iload_n C 1 dX5_readsMilk_7 rfl ?_
  refine v_cV_i C (As := [.int (iI (t))]) (rest := [.ref (a (0))]) (c_X5_look l D yc t1 t2 a A g t Dr (sk (fun x9 => g 5 (60 * t + x9)) (g 4 t) pl) 1 (by omega) (by omega) HB (by omega)) (cwV 1 C.hts gX5_readsMilk_X5_look rfl rfl rfl (by decide +kernel) ⟨by decide, by decide⟩) (fun H hP => va_recv C.hK hP (ci := 5) (q0 := (0 : Int).toNat) rfl (wo_is (by omega) (by omega) ct_mod)) rfl rfl (Nat.le_of_ble_eq_true rfl) dX5_readsMilk_8 ?_
  intro r9 g9 h9
  rw [h9.1, h9.2]
  clear h9 g9 r9
  try dsimp only
  refine v_bipush C dX5_readsMilk_11 (by decide) ?_
  refine v_icmp_ne (tgt := 20) C dX5_readsMilk_13 (by decide) (by omega) (by omega) (fun c13 => ?_) (fun c13 => ?_)
  · skip
    refine v_iconst C dX5_readsMilk_20 ?_
    refine v_cV_v C (As := [.int (iI (0))]) (rest := []) (c_X5_takes l D yc t1 t2 a A g 0 Dr (sk (fun x9 => g 5 (60 * t + x9)) (g 4 t) pl) 1 (Or.inr rfl) (by omega)) (cwV 1 C.hts gX5_readsMilk_X5_takes rfl rfl rfl (by decide +kernel) ⟨by decide, by decide⟩) (fun H hP => va_recv C.hK hP (ci := 5) (q0 := (0 : Int).toNat) rfl (wo_is (by omega) (by omega) ct_mod)) rfl rfl (Nat.le_of_ble_eq_true rfl) dX5_readsMilk_21 ?_
    intro g9 h9
    rw [h9]
    clear h9 g9
    try dsimp only
    refine v_g (g' := (pS g Dr (sk (fun x9 => g 5 (60 * t + x9)) (g 4 t) pl) 0)) (by first | rw [an_11] | rw [an_10, Int.add_zero]) ?_
    refine v_iconst C dX5_readsMilk_24 ?_
    refine v_istore_n (lv' := [(2, .int (iI (1))), (0, .ref (a (0))), (1, .int (iI (t)))]) C dX5_readsMilk_25 (by decide) rfl ?_
    refine v_aload_n C 1 dX5_readsMilk_26 rfl ?_
    refine v_getf C (by omega) (by omega) ct_mod rfl 16 (by decide) wf90 hinX5 rfl dX5_readsMilk_27 ?_
    refine v_st (st' := [.int (iI (0))]) (by rw [pS_w]) ?_
    refine v_if_eq (tgt := 125) C dX5_readsMilk_30 (by decide) (by decide) (fun _ => ?_) (fun h9 => absurd h9 (by decide))
    exact v_ret_v C rfl dX5_readsMilk_125 (by first | (have hz := it_n (B := (fun x9 => g 5 (60 * t + x9))) (L := (g 4 t)) (c := 109) (lo := 48) (hi := 57) (bs := 14) (cs := 2) (p := pl) (mx := 6) (D := Dr) c13; rw [hz.1, hz.2.1, hz.2.2]) | (have hz := it_y (B := (fun x9 => g 5 (60 * t + x9))) (L := (g 4 t)) (c := 109) (lo := 48) (hi := 57) (bs := 14) (cs := 2) (p := pl) (k := k) (mx := 6) (D := Dr) c13 (by omega) (by omega) (by rw [← hI26.2.2.2.2.2.2]; exact ff_y (by omega) (decide_eq_true (by omega))); rw [hz.1, hz.2.1, hz.2.2]) | (have hk0 : k = 0 := (by omega); have hz := it_0 (B := (fun x9 => g 5 (60 * t + x9))) (L := (g 4 t)) (c := 109) (lo := 48) (hi := 57) (bs := 14) (cs := 2) (p := pl) (mx := 6) (D := Dr) c13 (by omega) (by rw [← hI26.2.2.2.2.2.2, hk0, Int.add_zero]; exact ff_y (by omega) (decide_eq_true (by have hc := c63; rw [hk0, Int.add_zero] at hc; exact hc))); rw [hz.1, hz.2.1, hz.2.2, hk0, Int.add_zero]; rfl) | (have hk8 : k = 6 := (by omega); have hz := it_m (B := (fun x9 => g 5 (60 * t + x9))) (L := (g 4 t)) (c := 109) (lo := 48) (hi := 57) (bs := 14) (cs := 2) (p := pl) (mx := 6) (D := Dr) c13 (by rw [← hI26.2.2.2.2.2.2, ff_n (by omega) (fun h => absurd (of_decide_eq_true h) (by omega)), ff_e (by omega)]); rw [hz.1, hz.2.1, hz.2.2, hk8]; rfl))
  · skip
    refine v_iconst C dX5_readsMilk_16 ?_
    refine v_goto (tgt := 21) C dX5_readsMilk_17 (by decide) ?_
    refine v_cV_v C (As := [.int (iI (1))]) (rest := []) (c_X5_takes l D yc t1 t2 a A g 1 Dr (sk (fun x9 => g 5 (60 * t + x9)) (g 4 t) pl) 1 (Or.inr rfl) (by omega)) (cwV 1 C.hts gX5_readsMilk_X5_takes rfl rfl rfl (by decide +kernel) ⟨by decide, by decide⟩) (fun H hP => va_recv C.hK hP (ci := 5) (q0 := (0 : Int).toNat) rfl (wo_is (by omega) (by omega) ct_mod)) rfl rfl (Nat.le_of_ble_eq_true rfl) dX5_readsMilk_21 ?_
    intro g9 h9
    rw [h9]
    clear h9 g9
    try dsimp only
    refine v_g (g' := (pS g Dr (sk (fun x9 => g 5 (60 * t + x9)) (g 4 t) pl + 1) 1)) (by first | rw [an_11] | rw [an_10, Int.add_zero]) ?_
    refine v_iconst C dX5_readsMilk_24 ?_
    refine v_istore_n (lv' := [(2, .int (iI (1))), (0, .ref (a (0))), (1, .int (iI (t)))]) C dX5_readsMilk_25 (by decide) rfl ?_
    refine v_g (g' := (pS g (rD (fun x9 => g 5 (60 * t + x9)) (g 4 t) 48 14 2 (sk (fun x9 => g 5 (60 * t + x9)) (g 4 t) pl + 1) Dr ((0 : Int)).toNat) ((sk (fun x9 => g 5 (60 * t + x9)) (g 4 t) pl + 1) + 0) 1)) (by rw [Int.add_zero]; rfl) ?_
    refine v_lv (congrArg (fun x9 => ([(2, .int (iI x9)), (0, .ref (a (0))), (1, .int (iI (t)))] : List (Nat × Value))) (show (1) = (((1 : Int))) by first | rfl | omega | (simp; done))) ?_
    refine v_loop2 (fun (y : Int) (k : Int) => (6 - k).toNat) (fun (y : Int) (k : Int) => 0 ≤ k ∧ k ≤ 6 ∧ (sk (fun x9 => g 5 (60 * t + x9)) (g 4 t) pl + 1) + k ≤ 60 ∧ (y = 0 ∨ y = 1) ∧ (k = 0 → y = 1) ∧ (0 < k → (y = 1 ↔ (48 ≤ lk (fun x9 => g 5 (60 * t + x9)) (g 4 t) ((sk (fun x9 => g 5 (60 * t + x9)) (g 4 t) pl + 1) + k) ∧ lk (fun x9 => g 5 (60 * t + x9)) (g 4 t) ((sk (fun x9 => g 5 (60 * t + x9)) (g 4 t) pl + 1) + k) ≤ 57))) ∧ ff (ntP (fun x9 => g 5 (60 * t + x9)) (g 4 t) 48 57) ((sk (fun x9 => g 5 (60 * t + x9)) (g 4 t) pl + 1) + 7 - ((sk (fun x9 => g 5 (60 * t + x9)) (g 4 t) pl + 1) + k)).toNat ((sk (fun x9 => g 5 (60 * t + x9)) (g 4 t) pl + 1) + k) = rX (fun x9 => g 5 (60 * t + x9)) (g 4 t) 48 57 6 (sk (fun x9 => g 5 (60 * t + x9)) (g 4 t) pl + 1)) (fun (y : Int) (k : Int) => [(2, .int (iI (y))), (0, .ref (a (0))), (1, .int (iI (t)))]) (fun (y : Int) (k : Int) => (pS g (rD (fun x9 => g 5 (60 * t + x9)) (g 4 t) 48 14 2 (sk (fun x9 => g 5 (60 * t + x9)) (g 4 t) pl + 1) Dr k.toNat) ((sk (fun x9 => g 5 (60 * t + x9)) (g 4 t) pl + 1) + k) 1)) ?_ 1 0 ⟨by omega, by omega, by have := lk_32 (B := (fun x9 => g 5 (60 * t + x9))) (L := (g 4 t)) (p := sk (fun x9 => g 5 (60 * t + x9)) (g 4 t) pl) (by omega); omega, by omega, by omega, by omega, by unfold rX; rw [show ((sk (fun x9 => g 5 (60 * t + x9)) (g 4 t) pl + 1) + 7 - ((sk (fun x9 => g 5 (60 * t + x9)) (g 4 t) pl + 1) + 0)).toNat = 6+1 by omega, Int.add_zero]⟩
    intro y k hI26 ih26
    try dsimp only at ih26 ⊢
    refine v_aload_n C 1 dX5_readsMilk_26 rfl ?_
    refine v_getf C (by omega) (by omega) ct_mod rfl 16 (by decide) wf90 hinX5 rfl dX5_readsMilk_27 ?_
    refine v_st (st' := [.int (iI (1))]) (by rw [pS_w]) ?_
    refine v_if_eq (tgt := 125) C dX5_readsMilk_30 (by decide) (by decide) (fun h9 => absurd h9 (by decide)) (fun _ => ?_)
    refine v_iload_n C 0 dX5_readsMilk_33 rfl ?_
    refine v_if_eq (tgt := 125) C dX5_readsMilk_34 (by decide) (by omega) (fun c34 => ?_) (fun c34 => ?_)
    · skip
      exact v_ret_v C rfl dX5_readsMilk_125 (by first | (have hz := it_n (B := (fun x9 => g 5 (60 * t + x9))) (L := (g 4 t)) (c := 109) (lo := 48) (hi := 57) (bs := 14) (cs := 2) (p := pl) (mx := 6) (D := Dr) c13; rw [hz.1, hz.2.1, hz.2.2]) | (have hz := it_y (B := (fun x9 => g 5 (60 * t + x9))) (L := (g 4 t)) (c := 109) (lo := 48) (hi := 57) (bs := 14) (cs := 2) (p := pl) (k := k) (mx := 6) (D := Dr) c13 (by omega) (by omega) (by rw [← hI26.2.2.2.2.2.2]; exact ff_y (by omega) (decide_eq_true (by omega))); rw [hz.1, hz.2.1, hz.2.2]) | (have hk0 : k = 0 := (by omega); have hz := it_0 (B := (fun x9 => g 5 (60 * t + x9))) (L := (g 4 t)) (c := 109) (lo := 48) (hi := 57) (bs := 14) (cs := 2) (p := pl) (mx := 6) (D := Dr) c13 (by omega) (by rw [← hI26.2.2.2.2.2.2, hk0, Int.add_zero]; exact ff_y (by omega) (decide_eq_true (by have hc := c63; rw [hk0, Int.add_zero] at hc; exact hc))); rw [hz.1, hz.2.1, hz.2.2, hk0, Int.add_zero]; rfl) | (have hk8 : k = 6 := (by omega); have hz := it_m (B := (fun x9 => g 5 (60 * t + x9))) (L := (g 4 t)) (c := 109) (lo := 48) (hi := 57) (bs := 14) (cs := 2) (p := pl) (mx := 6) (D := Dr) c13 (by rw [← hI26.2.2.2.2.2.2, ff_n (by omega) (fun h => absurd (of_decide_eq_true h) (by omega)), ff_e (by omega)]); rw [hz.1, hz.2.1, hz.2.2, hk8]; rfl))
    · skip
      have hl1 := lk_bd (B := (fun x9 => g 5 (60 * t + x9))) (fun j => HB (60 * t + j)) (g 4 t) ((sk (fun x9 => g 5 (60 * t + x9)) (g 4 t) pl + 1) + k)
      have hcs : rD (fun x9 => g 5 (60 * t + x9)) (g 4 t) 48 14 2 (sk (fun x9 => g 5 (60 * t + x9)) (g 4 t) pl + 1) Dr k.toNat 2 = k := rD_0 _ _ _ _ _ _ _ hD (by omega)
      refine v_aload_n C 1 dX5_readsMilk_37 rfl ?_
      refine v_iload_n C 2 dX5_readsMilk_38 rfl ?_
      refine v_cV_i C (As := [.int (iI (t))]) (rest := []) (c_X5_look l D yc t1 t2 a A g t (rD (fun x9 => g 5 (60 * t + x9)) (g 4 t) 48 14 2 (sk (fun x9 => g 5 (60 * t + x9)) (g 4 t) pl + 1) Dr k.toNat) ((sk (fun x9 => g 5 (60 * t + x9)) (g 4 t) pl + 1) + k) 1 (by omega) (by omega) HB (by omega)) (cwV 1 C.hts gX5_readsMilk_X5_look rfl rfl rfl (by decide +kernel) ⟨by decide, by decide⟩) (fun H hP => va_recv C.hK hP (ci := 5) (q0 := (0 : Int).toNat) rfl (wo_is (by omega) (by omega) ct_mod)) rfl rfl (Nat.le_of_ble_eq_true rfl) dX5_readsMilk_39 ?_
      intro r9 g9 h9
      rw [h9.1, h9.2]
      clear h9 g9 r9
      try dsimp only
      refine v_istore_n (lv' := [(3, .int (iI (lk (fun x9 => g 5 (60 * t + x9)) (g 4 t) ((sk (fun x9 => g 5 (60 * t + x9)) (g 4 t) pl + 1) + k)))), (2, .int (iI (y))), (0, .ref (a (0))), (1, .int (iI (t)))]) C dX5_readsMilk_42 (by decide) rfl ?_
      refine v_aload_n C 2 dX5_readsMilk_43 rfl ?_
      refine v_aload_n C 2 dX5_readsMilk_44 rfl ?_
      refine v_getf C (by omega) (by omega) ct_mod rfl 6 (by decide) wf28 hinX5 rfl dX5_readsMilk_45 ?_
      refine v_iconst C dX5_readsMilk_48 ?_
      refine v_iaload C (by omega) (by omega) ct_mdraft (by omega) (by omega) (by decide) dX5_readsMilk_49 ?_
      refine v_st (st' := [.int (iI ((rD (fun x9 => g 5 (60 * t + x9)) (g 4 t) 48 14 2 (sk (fun x9 => g 5 (60 * t + x9)) (g 4 t) pl + 1) Dr k.toNat) (2))), .ref (a (0))]) (by rw [pS_D]) ?_
      refine v_st (st' := [.int (iI (k)), .ref (a (0))]) (by rw [hcs]) ?_
      refine v_bipush C dX5_readsMilk_50 (by decide) ?_
      refine v_icmp_ge (tgt := 70) C dX5_readsMilk_52 (by decide) (by omega) (by omega) (fun c52 => ?_) (fun c52 => ?_)
      · skip
        refine v_iconst C dX5_readsMilk_70 ?_
        refine v_cV_v C (As := [.int (iI (0))]) (rest := []) (c_X5_takes l D yc t1 t2 a A g 0 (rD (fun x9 => g 5 (60 * t + x9)) (g 4 t) 48 14 2 (sk (fun x9 => g 5 (60 * t + x9)) (g 4 t) pl + 1) Dr k.toNat) ((sk (fun x9 => g 5 (60 * t + x9)) (g 4 t) pl + 1) + k) 1 (Or.inr rfl) (by omega)) (cwV 1 C.hts gX5_readsMilk_X5_takes rfl rfl rfl (by decide +kernel) ⟨by decide, by decide⟩) (fun H hP => va_recv C.hK hP (ci := 5) (q0 := (0 : Int).toNat) rfl (wo_is (by omega) (by omega) ct_mod)) rfl rfl (Nat.le_of_ble_eq_true rfl) dX5_readsMilk_71 ?_
        intro g9 h9
        rw [h9]
        clear h9 g9
        try dsimp only
        refine v_g (g' := (pS g ((rD (fun x9 => g 5 (60 * t + x9)) (g 4 t) 48 14 2 (sk (fun x9 => g 5 (60 * t + x9)) (g 4 t) pl + 1) Dr k.toNat)) ((sk (fun x9 => g 5 (60 * t + x9)) (g 4 t) pl + 1) + k) 0)) (by rw [an_10, Int.add_zero]) ?_
        refine v_aload_n C 2 dX5_readsMilk_74 rfl ?_
        refine v_getf C (by omega) (by omega) ct_mod rfl 16 (by decide) wf90 hinX5 rfl dX5_readsMilk_75 ?_
        refine v_st (st' := [.int (iI (0))]) (by rw [pS_w]) ?_
        refine v_if_eq (tgt := 109) C dX5_readsMilk_78 (by decide) (by decide) (fun _ => ?_) (fun h9 => absurd h9 (by decide))
        refine v_aload_n C 2 dX5_readsMilk_109 rfl ?_
        have hl2 := lk_32 (B := (fun x9 => g 5 (60 * t + x9))) (L := (g 4 t)) (p := (sk (fun x9 => g 5 (60 * t + x9)) (g 4 t) pl + 1) + k)
        have hl3 := lk_bd (B := (fun x9 => g 5 (60 * t + x9))) (fun j => HB (60 * t + j)) (g 4 t) ((sk (fun x9 => g 5 (60 * t + x9)) (g 4 t) pl + 1) + k + 1)
        have hl4 := lk_bd (B := (fun x9 => g 5 (60 * t + x9))) (fun j => HB (60 * t + j)) (g 4 t) ((sk (fun x9 => g 5 (60 * t + x9)) (g 4 t) pl + 1) + k)
        refine v_iload_n C 3 dX5_readsMilk_110 rfl ?_
        refine v_cV_i C (As := [.int (iI (t))]) (rest := []) (c_X5_look l D yc t1 t2 a A g t ((rD (fun x9 => g 5 (60 * t + x9)) (g 4 t) 48 14 2 (sk (fun x9 => g 5 (60 * t + x9)) (g 4 t) pl + 1) Dr k.toNat)) ((sk (fun x9 => g 5 (60 * t + x9)) (g 4 t) pl + 1) + k) 0 (by omega) (by omega) HB (by omega)) (cwV 1 C.hts gX5_readsMilk_X5_look rfl rfl rfl (by decide +kernel) ⟨by decide, by decide⟩) (fun H hP => va_recv C.hK hP (ci := 5) (q0 := (0 : Int).toNat) rfl (wo_is (by omega) (by omega) ct_mod)) rfl rfl (Nat.le_of_ble_eq_true rfl) dX5_readsMilk_111 ?_
        intro r9 g9 h9
        rw [h9.1, h9.2]
        clear h9 g9 r9
        try dsimp only
        refine v_bipush C dX5_readsMilk_114 (by decide) ?_
        refine v_bipush C dX5_readsMilk_116 (by decide) ?_
        refine v_cS_i C (As := [.int (iI (lk (fun x9 => g 5 (60 * t + x9)) (g 4 t) ((sk (fun x9 => g 5 (60 * t + x9)) (g 4 t) pl + 1) + k))), .int (iI (48)), .int (iI (57))]) (rest := []) (c_X5_in l D yc t1 t2 A (mw a yc) (pS g ((rD (fun x9 => g 5 (60 * t + x9)) (g 4 t) 48 14 2 (sk (fun x9 => g 5 (60 * t + x9)) (g 4 t) pl + 1) Dr k.toNat)) ((sk (fun x9 => g 5 (60 * t + x9)) (g 4 t) pl + 1) + k) 0) (lk (fun x9 => g 5 (60 * t + x9)) (g 4 t) ((sk (fun x9 => g 5 (60 * t + x9)) (g 4 t) pl + 1) + k)) 48 57 (by omega) (by omega) (by omega)) (va_cwS 3 C.hts gX5_readsMilk_X5_in rfl rfl rfl (by decide +kernel) ⟨by decide, by decide⟩) rfl rfl (Nat.le_of_ble_eq_true rfl) dX5_readsMilk_118 ?_
        intro r9 g9 h9
        rw [h9.1, h9.2]
        clear h9 g9 r9
        try dsimp only
        refine v_st (st' := [.int (iI (bZ (48 ≤ (lk (fun x9 => g 5 (60 * t + x9)) (g 4 t) ((sk (fun x9 => g 5 (60 * t + x9)) (g 4 t) pl + 1) + k)) ∧ (lk (fun x9 => g 5 (60 * t + x9)) (g 4 t) ((sk (fun x9 => g 5 (60 * t + x9)) (g 4 t) pl + 1) + k)) ≤ 57)))]) (by rw [bI_Z]) ?_
        refine v_istore_n (lv' := [(2, .int (iI (bZ (48 ≤ (lk (fun x9 => g 5 (60 * t + x9)) (g 4 t) ((sk (fun x9 => g 5 (60 * t + x9)) (g 4 t) pl + 1) + k)) ∧ (lk (fun x9 => g 5 (60 * t + x9)) (g 4 t) ((sk (fun x9 => g 5 (60 * t + x9)) (g 4 t) pl + 1) + k)) ≤ 57)))), (3, .int (iI (lk (fun x9 => g 5 (60 * t + x9)) (g 4 t) ((sk (fun x9 => g 5 (60 * t + x9)) (g 4 t) pl + 1) + k)))), (0, .ref (a (0))), (1, .int (iI (t)))]) C dX5_readsMilk_121 (by decide) rfl ?_
        refine v_goto (tgt := 26) C dX5_readsMilk_122 (by decide) ?_
        refine v_aload_n C 2 dX5_readsMilk_26 rfl ?_
        refine v_getf C (by omega) (by omega) ct_mod rfl 16 (by decide) wf90 hinX5 rfl dX5_readsMilk_27 ?_
        refine v_st (st' := [.int (iI (0))]) (by rw [pS_w]) ?_
        refine v_if_eq (tgt := 125) C dX5_readsMilk_30 (by decide) (by decide) (fun _ => ?_) (fun h9 => absurd h9 (by decide))
        exact v_ret_v C rfl dX5_readsMilk_125 (by first | (have hz := it_n (B := (fun x9 => g 5 (60 * t + x9))) (L := (g 4 t)) (c := 109) (lo := 48) (hi := 57) (bs := 14) (cs := 2) (p := pl) (mx := 6) (D := Dr) c13; rw [hz.1, hz.2.1, hz.2.2]) | (have hz := it_y (B := (fun x9 => g 5 (60 * t + x9))) (L := (g 4 t)) (c := 109) (lo := 48) (hi := 57) (bs := 14) (cs := 2) (p := pl) (k := k) (mx := 6) (D := Dr) c13 (by omega) (by omega) (by rw [← hI26.2.2.2.2.2.2]; exact ff_y (by omega) (decide_eq_true (by omega))); rw [hz.1, hz.2.1, hz.2.2]) | (have hk0 : k = 0 := (by omega); have hz := it_0 (B := (fun x9 => g 5 (60 * t + x9))) (L := (g 4 t)) (c := 109) (lo := 48) (hi := 57) (bs := 14) (cs := 2) (p := pl) (mx := 6) (D := Dr) c13 (by omega) (by rw [← hI26.2.2.2.2.2.2, hk0, Int.add_zero]; exact ff_y (by omega) (decide_eq_true (by have hc := c63; rw [hk0, Int.add_zero] at hc; exact hc))); rw [hz.1, hz.2.1, hz.2.2, hk0, Int.add_zero]; rfl) | (have hk8 : k = 6 := (by omega); have hz := it_m (B := (fun x9 => g 5 (60 * t + x9))) (L := (g 4 t)) (c := 109) (lo := 48) (hi := 57) (bs := 14) (cs := 2) (p := pl) (mx := 6) (D := Dr) c13 (by rw [← hI26.2.2.2.2.2.2, ff_n (by omega) (fun h => absurd (of_decide_eq_true h) (by omega)), ff_e (by omega)]); rw [hz.1, hz.2.1, hz.2.2, hk8]; rfl))
      · skip
        refine v_iload_n C 0 dX5_readsMilk_55 rfl ?_
        refine v_bipush C dX5_readsMilk_56 (by decide) ?_
        refine v_bipush C dX5_readsMilk_58 (by decide) ?_
        refine v_cS_i C (As := [.int (iI (lk (fun x9 => g 5 (60 * t + x9)) (g 4 t) ((sk (fun x9 => g 5 (60 * t + x9)) (g 4 t) pl + 1) + k))), .int (iI (48)), .int (iI (57))]) (rest := [.ref (a (0))]) (c_X5_in l D yc t1 t2 A (mw a yc) (pS g (rD (fun x9 => g 5 (60 * t + x9)) (g 4 t) 48 14 2 (sk (fun x9 => g 5 (60 * t + x9)) (g 4 t) pl + 1) Dr k.toNat) ((sk (fun x9 => g 5 (60 * t + x9)) (g 4 t) pl + 1) + k) 1) (lk (fun x9 => g 5 (60 * t + x9)) (g 4 t) ((sk (fun x9 => g 5 (60 * t + x9)) (g 4 t) pl + 1) + k)) 48 57 (by omega) (by omega) (by omega)) (va_cwS 3 C.hts gX5_readsMilk_X5_in rfl rfl rfl (by decide +kernel) ⟨by decide, by decide⟩) rfl rfl (Nat.le_of_ble_eq_true rfl) dX5_readsMilk_60 ?_
        intro r9 g9 h9
        rw [h9.1, h9.2]
        clear h9 g9 r9
        try dsimp only
        refine v_ifb_eq (tgt := 70) C dX5_readsMilk_63 (by decide) (fun c63 => ?_) (fun c63 => ?_)
        · skip
          refine v_iconst C dX5_readsMilk_70 ?_
          refine v_cV_v C (As := [.int (iI (0))]) (rest := []) (c_X5_takes l D yc t1 t2 a A g 0 (rD (fun x9 => g 5 (60 * t + x9)) (g 4 t) 48 14 2 (sk (fun x9 => g 5 (60 * t + x9)) (g 4 t) pl + 1) Dr k.toNat) ((sk (fun x9 => g 5 (60 * t + x9)) (g 4 t) pl + 1) + k) 1 (Or.inr rfl) (by omega)) (cwV 1 C.hts gX5_readsMilk_X5_takes rfl rfl rfl (by decide +kernel) ⟨by decide, by decide⟩) (fun H hP => va_recv C.hK hP (ci := 5) (q0 := (0 : Int).toNat) rfl (wo_is (by omega) (by omega) ct_mod)) rfl rfl (Nat.le_of_ble_eq_true rfl) dX5_readsMilk_71 ?_
          intro g9 h9
          rw [h9]
          clear h9 g9
          try dsimp only
          refine v_g (g' := (pS g ((rD (fun x9 => g 5 (60 * t + x9)) (g 4 t) 48 14 2 (sk (fun x9 => g 5 (60 * t + x9)) (g 4 t) pl + 1) Dr k.toNat)) ((sk (fun x9 => g 5 (60 * t + x9)) (g 4 t) pl + 1) + k) 0)) (by rw [an_10, Int.add_zero]) ?_
          refine v_aload_n C 2 dX5_readsMilk_74 rfl ?_
          refine v_getf C (by omega) (by omega) ct_mod rfl 16 (by decide) wf90 hinX5 rfl dX5_readsMilk_75 ?_
          refine v_st (st' := [.int (iI (0))]) (by rw [pS_w]) ?_
          refine v_if_eq (tgt := 109) C dX5_readsMilk_78 (by decide) (by decide) (fun _ => ?_) (fun h9 => absurd h9 (by decide))
          refine v_aload_n C 2 dX5_readsMilk_109 rfl ?_
          have hl2 := lk_32 (B := (fun x9 => g 5 (60 * t + x9))) (L := (g 4 t)) (p := (sk (fun x9 => g 5 (60 * t + x9)) (g 4 t) pl + 1) + k)
          have hl3 := lk_bd (B := (fun x9 => g 5 (60 * t + x9))) (fun j => HB (60 * t + j)) (g 4 t) ((sk (fun x9 => g 5 (60 * t + x9)) (g 4 t) pl + 1) + k + 1)
          have hl4 := lk_bd (B := (fun x9 => g 5 (60 * t + x9))) (fun j => HB (60 * t + j)) (g 4 t) ((sk (fun x9 => g 5 (60 * t + x9)) (g 4 t) pl + 1) + k)
          refine v_iload_n C 3 dX5_readsMilk_110 rfl ?_
          refine v_cV_i C (As := [.int (iI (t))]) (rest := []) (c_X5_look l D yc t1 t2 a A g t ((rD (fun x9 => g 5 (60 * t + x9)) (g 4 t) 48 14 2 (sk (fun x9 => g 5 (60 * t + x9)) (g 4 t) pl + 1) Dr k.toNat)) ((sk (fun x9 => g 5 (60 * t + x9)) (g 4 t) pl + 1) + k) 0 (by omega) (by omega) HB (by omega)) (cwV 1 C.hts gX5_readsMilk_X5_look rfl rfl rfl (by decide +kernel) ⟨by decide, by decide⟩) (fun H hP => va_recv C.hK hP (ci := 5) (q0 := (0 : Int).toNat) rfl (wo_is (by omega) (by omega) ct_mod)) rfl rfl (Nat.le_of_ble_eq_true rfl) dX5_readsMilk_111 ?_
          intro r9 g9 h9
          rw [h9.1, h9.2]
          clear h9 g9 r9
          try dsimp only
          refine v_bipush C dX5_readsMilk_114 (by decide) ?_
          refine v_bipush C dX5_readsMilk_116 (by decide) ?_
          refine v_cS_i C (As := [.int (iI (lk (fun x9 => g 5 (60 * t + x9)) (g 4 t) ((sk (fun x9 => g 5 (60 * t + x9)) (g 4 t) pl + 1) + k))), .int (iI (48)), .int (iI (57))]) (rest := []) (c_X5_in l D yc t1 t2 A (mw a yc) (pS g ((rD (fun x9 => g 5 (60 * t + x9)) (g 4 t) 48 14 2 (sk (fun x9 => g 5 (60 * t + x9)) (g 4 t) pl + 1) Dr k.toNat)) ((sk (fun x9 => g 5 (60 * t + x9)) (g 4 t) pl + 1) + k) 0) (lk (fun x9 => g 5 (60 * t + x9)) (g 4 t) ((sk (fun x9 => g 5 (60 * t + x9)) (g 4 t) pl + 1) + k)) 48 57 (by omega) (by omega) (by omega)) (va_cwS 3 C.hts gX5_readsMilk_X5_in rfl rfl rfl (by decide +kernel) ⟨by decide, by decide⟩) rfl rfl (Nat.le_of_ble_eq_true rfl) dX5_readsMilk_118 ?_
          intro r9 g9 h9
          rw [h9.1, h9.2]
          clear h9 g9 r9
          try dsimp only
          refine v_st (st' := [.int (iI (bZ (48 ≤ (lk (fun x9 => g 5 (60 * t + x9)) (g 4 t) ((sk (fun x9 => g 5 (60 * t + x9)) (g 4 t) pl + 1) + k)) ∧ (lk (fun x9 => g 5 (60 * t + x9)) (g 4 t) ((sk (fun x9 => g 5 (60 * t + x9)) (g 4 t) pl + 1) + k)) ≤ 57)))]) (by rw [bI_Z]) ?_
          refine v_istore_n (lv' := [(2, .int (iI (bZ (48 ≤ (lk (fun x9 => g 5 (60 * t + x9)) (g 4 t) ((sk (fun x9 => g 5 (60 * t + x9)) (g 4 t) pl + 1) + k)) ∧ (lk (fun x9 => g 5 (60 * t + x9)) (g 4 t) ((sk (fun x9 => g 5 (60 * t + x9)) (g 4 t) pl + 1) + k)) ≤ 57)))), (3, .int (iI (lk (fun x9 => g 5 (60 * t + x9)) (g 4 t) ((sk (fun x9 => g 5 (60 * t + x9)) (g 4 t) pl + 1) + k)))), (0, .ref (a (0))), (1, .int (iI (t)))]) C dX5_readsMilk_121 (by decide) rfl ?_
          refine v_goto (tgt := 26) C dX5_readsMilk_122 (by decide) ?_
          refine v_aload_n C 2 dX5_readsMilk_26 rfl ?_
          refine v_getf C (by omega) (by omega) ct_mod rfl 16 (by decide) wf90 hinX5 rfl dX5_readsMilk_27 ?_
          refine v_st (st' := [.int (iI (0))]) (by rw [pS_w]) ?_
          refine v_if_eq (tgt := 125) C dX5_readsMilk_30 (by decide) (by decide) (fun _ => ?_) (fun h9 => absurd h9 (by decide))
          exact v_ret_v C rfl dX5_readsMilk_125 (by first | (have hz := it_n (B := (fun x9 => g 5 (60 * t + x9))) (L := (g 4 t)) (c := 109) (lo := 48) (hi := 57) (bs := 14) (cs := 2) (p := pl) (mx := 6) (D := Dr) c13; rw [hz.1, hz.2.1, hz.2.2]) | (have hz := it_y (B := (fun x9 => g 5 (60 * t + x9))) (L := (g 4 t)) (c := 109) (lo := 48) (hi := 57) (bs := 14) (cs := 2) (p := pl) (k := k) (mx := 6) (D := Dr) c13 (by omega) (by omega) (by rw [← hI26.2.2.2.2.2.2]; exact ff_y (by omega) (decide_eq_true (by omega))); rw [hz.1, hz.2.1, hz.2.2]) | (have hk0 : k = 0 := (by omega); have hz := it_0 (B := (fun x9 => g 5 (60 * t + x9))) (L := (g 4 t)) (c := 109) (lo := 48) (hi := 57) (bs := 14) (cs := 2) (p := pl) (mx := 6) (D := Dr) c13 (by omega) (by rw [← hI26.2.2.2.2.2.2, hk0, Int.add_zero]; exact ff_y (by omega) (decide_eq_true (by have hc := c63; rw [hk0, Int.add_zero] at hc; exact hc))); rw [hz.1, hz.2.1, hz.2.2, hk0, Int.add_zero]; rfl) | (have hk8 : k = 6 := (by omega); have hz := it_m (B := (fun x9 => g 5 (60 * t + x9))) (L := (g 4 t)) (c := 109) (lo := 48) (hi := 57) (bs := 14) (cs := 2) (p := pl) (mx := 6) (D := Dr) c13 (by rw [← hI26.2.2.2.2.2.2, ff_n (by omega) (fun h => absurd (of_decide_eq_true h) (by omega)), ff_e (by omega)]); rw [hz.1, hz.2.1, hz.2.2, hk8]; rfl))
        · skip
          refine v_iconst C dX5_readsMilk_66 ?_
          refine v_goto (tgt := 71) C dX5_readsMilk_67 (by decide) ?_
          refine v_cV_v C (As := [.int (iI (1))]) (rest := []) (c_X5_takes l D yc t1 t2 a A g 1 (rD (fun x9 => g 5 (60 * t + x9)) (g 4 t) 48 14 2 (sk (fun x9 => g 5 (60 * t + x9)) (g 4 t) pl + 1) Dr k.toNat) ((sk (fun x9 => g 5 (60 * t + x9)) (g 4 t) pl + 1) + k) 1 (Or.inr rfl) (by omega)) (cwV 1 C.hts gX5_readsMilk_X5_takes rfl rfl rfl (by decide +kernel) ⟨by decide, by decide⟩) (fun H hP => va_recv C.hK hP (ci := 5) (q0 := (0 : Int).toNat) rfl (wo_is (by omega) (by omega) ct_mod)) rfl rfl (Nat.le_of_ble_eq_true rfl) dX5_readsMilk_71 ?_
          intro g9 h9
          rw [h9]
          clear h9 g9
          try dsimp only
          refine v_g (g' := (pS g ((rD (fun x9 => g 5 (60 * t + x9)) (g 4 t) 48 14 2 (sk (fun x9 => g 5 (60 * t + x9)) (g 4 t) pl + 1) Dr k.toNat)) ((sk (fun x9 => g 5 (60 * t + x9)) (g 4 t) pl + 1) + k + 1) 1)) (by rw [an_11]) ?_
          refine v_aload_n C 2 dX5_readsMilk_74 rfl ?_
          refine v_getf C (by omega) (by omega) ct_mod rfl 16 (by decide) wf90 hinX5 rfl dX5_readsMilk_75 ?_
          refine v_st (st' := [.int (iI (1))]) (by rw [pS_w]) ?_
          refine v_if_eq (tgt := 109) C dX5_readsMilk_78 (by decide) (by decide) (fun h9 => absurd h9 (by decide)) (fun _ => ?_)
          refine v_aload_n C 2 dX5_readsMilk_81 rfl ?_
          refine v_getf C (by omega) (by omega) ct_mod rfl 6 (by decide) wf28 hinX5 rfl dX5_readsMilk_82 ?_
          refine v_bipush C dX5_readsMilk_85 (by decide) ?_
          refine v_aload_n C 2 dX5_readsMilk_87 rfl ?_
          refine v_getf C (by omega) (by omega) ct_mod rfl 6 (by decide) wf28 hinX5 rfl dX5_readsMilk_88 ?_
          refine v_iconst C dX5_readsMilk_91 ?_
          refine v_iaload C (by omega) (by omega) ct_mdraft (by omega) (by omega) (by decide) dX5_readsMilk_92 ?_
          refine v_st (st' := [.int (iI (((rD (fun x9 => g 5 (60 * t + x9)) (g 4 t) 48 14 2 (sk (fun x9 => g 5 (60 * t + x9)) (g 4 t) pl + 1) Dr k.toNat)) (2))), .int (iI (14)), .ref (a (7))]) (by rw [pS_D]) ?_
          refine v_st (st' := [.int (iI (k)), .int (iI (14)), .ref (a (7))]) (by rw [hcs]) ?_
          refine v_iadd C dX5_readsMilk_93 ?_
          refine v_iload_n C 0 dX5_readsMilk_94 rfl ?_
          refine v_bipush C dX5_readsMilk_95 (by decide) ?_
          refine v_isub C dX5_readsMilk_97 ?_
          refine v_iastore C (ctm_L a yc) (by omega) (by omega) ct_mdraft (ct_mdraft).symm (by omega) (by omega) (by decide) dX5_readsMilk_98 ?_
          refine v_g (g' := (pS g (fu ((rD (fun x9 => g 5 (60 * t + x9)) (g 4 t) 48 14 2 (sk (fun x9 => g 5 (60 * t + x9)) (g 4 t) pl + 1) Dr k.toNat)) (14 + k) ((lk (fun x9 => g 5 (60 * t + x9)) (g 4 t) ((sk (fun x9 => g 5 (60 * t + x9)) (g 4 t) pl + 1) + k)) - 48)) ((sk (fun x9 => g 5 (60 * t + x9)) (g 4 t) pl + 1) + k + 1) 1)) (pS_3 _ _ _ _ _ _) ?_
          refine v_aload_n C 2 dX5_readsMilk_99 rfl ?_
          refine v_getf C (by omega) (by omega) ct_mod rfl 6 (by decide) wf28 hinX5 rfl dX5_readsMilk_100 ?_
          refine v_iconst C dX5_readsMilk_103 ?_
          refine v_dup2 C dX5_readsMilk_104 rfl rfl ?_
          refine v_iaload C (by omega) (by omega) ct_mdraft (by omega) (by omega) (by decide) dX5_readsMilk_105 ?_
          refine v_st (st' := [.int (iI ((fu ((rD (fun x9 => g 5 (60 * t + x9)) (g 4 t) 48 14 2 (sk (fun x9 => g 5 (60 * t + x9)) (g 4 t) pl + 1) Dr k.toNat)) (14 + k) ((lk (fun x9 => g 5 (60 * t + x9)) (g 4 t) ((sk (fun x9 => g 5 (60 * t + x9)) (g 4 t) pl + 1) + k)) - 48)) (2))), .int (iI (2)), .ref (a (7))]) (by rw [pS_D]) ?_
          refine v_st (st' := [.int (iI (k)), .int (iI (2)), .ref (a (7))]) (by rw [fu_ne (by omega), hcs]) ?_
          refine v_iconst C dX5_readsMilk_106 ?_
          refine v_iadd C dX5_readsMilk_107 ?_
          refine v_iastore C (ctm_L a yc) (by omega) (by omega) ct_mdraft (ct_mdraft).symm (by omega) (by omega) (by decide) dX5_readsMilk_108 ?_
          refine v_g (g' := (pS g (fu (fu ((rD (fun x9 => g 5 (60 * t + x9)) (g 4 t) 48 14 2 (sk (fun x9 => g 5 (60 * t + x9)) (g 4 t) pl + 1) Dr k.toNat)) (14 + k) ((lk (fun x9 => g 5 (60 * t + x9)) (g 4 t) ((sk (fun x9 => g 5 (60 * t + x9)) (g 4 t) pl + 1) + k)) - 48)) 2 (k + 1)) ((sk (fun x9 => g 5 (60 * t + x9)) (g 4 t) pl + 1) + k + 1) 1)) (pS_3 _ _ _ _ _ _) ?_
          refine v_aload_n C 2 dX5_readsMilk_109 rfl ?_
          have hl2 := lk_32 (B := (fun x9 => g 5 (60 * t + x9))) (L := (g 4 t)) (p := (sk (fun x9 => g 5 (60 * t + x9)) (g 4 t) pl + 1) + k)
          have hl3 := lk_bd (B := (fun x9 => g 5 (60 * t + x9))) (fun j => HB (60 * t + j)) (g 4 t) ((sk (fun x9 => g 5 (60 * t + x9)) (g 4 t) pl + 1) + k + 1)
          have hl4 := lk_bd (B := (fun x9 => g 5 (60 * t + x9))) (fun j => HB (60 * t + j)) (g 4 t) ((sk (fun x9 => g 5 (60 * t + x9)) (g 4 t) pl + 1) + k)
          refine v_iload_n C 3 dX5_readsMilk_110 rfl ?_
          refine v_cV_i C (As := [.int (iI (t))]) (rest := []) (c_X5_look l D yc t1 t2 a A g t (fu (fu ((rD (fun x9 => g 5 (60 * t + x9)) (g 4 t) 48 14 2 (sk (fun x9 => g 5 (60 * t + x9)) (g 4 t) pl + 1) Dr k.toNat)) (14 + k) ((lk (fun x9 => g 5 (60 * t + x9)) (g 4 t) ((sk (fun x9 => g 5 (60 * t + x9)) (g 4 t) pl + 1) + k)) - 48)) 2 (k + 1)) ((sk (fun x9 => g 5 (60 * t + x9)) (g 4 t) pl + 1) + k + 1) 1 (by omega) (by omega) HB (by omega)) (cwV 1 C.hts gX5_readsMilk_X5_look rfl rfl rfl (by decide +kernel) ⟨by decide, by decide⟩) (fun H hP => va_recv C.hK hP (ci := 5) (q0 := (0 : Int).toNat) rfl (wo_is (by omega) (by omega) ct_mod)) rfl rfl (Nat.le_of_ble_eq_true rfl) dX5_readsMilk_111 ?_
          intro r9 g9 h9
          rw [h9.1, h9.2]
          clear h9 g9 r9
          try dsimp only
          refine v_bipush C dX5_readsMilk_114 (by decide) ?_
          refine v_bipush C dX5_readsMilk_116 (by decide) ?_
          refine v_cS_i C (As := [.int (iI (lk (fun x9 => g 5 (60 * t + x9)) (g 4 t) ((sk (fun x9 => g 5 (60 * t + x9)) (g 4 t) pl + 1) + k + 1))), .int (iI (48)), .int (iI (57))]) (rest := []) (c_X5_in l D yc t1 t2 A (mw a yc) (pS g (fu (fu ((rD (fun x9 => g 5 (60 * t + x9)) (g 4 t) 48 14 2 (sk (fun x9 => g 5 (60 * t + x9)) (g 4 t) pl + 1) Dr k.toNat)) (14 + k) ((lk (fun x9 => g 5 (60 * t + x9)) (g 4 t) ((sk (fun x9 => g 5 (60 * t + x9)) (g 4 t) pl + 1) + k)) - 48)) 2 (k + 1)) ((sk (fun x9 => g 5 (60 * t + x9)) (g 4 t) pl + 1) + k + 1) 1) (lk (fun x9 => g 5 (60 * t + x9)) (g 4 t) ((sk (fun x9 => g 5 (60 * t + x9)) (g 4 t) pl + 1) + k + 1)) 48 57 (by omega) (by omega) (by omega)) (va_cwS 3 C.hts gX5_readsMilk_X5_in rfl rfl rfl (by decide +kernel) ⟨by decide, by decide⟩) rfl rfl (Nat.le_of_ble_eq_true rfl) dX5_readsMilk_118 ?_
          intro r9 g9 h9
          rw [h9.1, h9.2]
          clear h9 g9 r9
          try dsimp only
          refine v_st (st' := [.int (iI (bZ (48 ≤ (lk (fun x9 => g 5 (60 * t + x9)) (g 4 t) ((sk (fun x9 => g 5 (60 * t + x9)) (g 4 t) pl + 1) + k + 1)) ∧ (lk (fun x9 => g 5 (60 * t + x9)) (g 4 t) ((sk (fun x9 => g 5 (60 * t + x9)) (g 4 t) pl + 1) + k + 1)) ≤ 57)))]) (by rw [bI_Z]) ?_
          refine v_istore_n (lv' := [(2, .int (iI (bZ (48 ≤ (lk (fun x9 => g 5 (60 * t + x9)) (g 4 t) ((sk (fun x9 => g 5 (60 * t + x9)) (g 4 t) pl + 1) + k + 1)) ∧ (lk (fun x9 => g 5 (60 * t + x9)) (g 4 t) ((sk (fun x9 => g 5 (60 * t + x9)) (g 4 t) pl + 1) + k + 1)) ≤ 57)))), (3, .int (iI (lk (fun x9 => g 5 (60 * t + x9)) (g 4 t) ((sk (fun x9 => g 5 (60 * t + x9)) (g 4 t) pl + 1) + k)))), (0, .ref (a (0))), (1, .int (iI (t)))]) C dX5_readsMilk_121 (by decide) rfl ?_
          refine v_goto (tgt := 26) C dX5_readsMilk_122 (by decide) ?_
          refine v_sub (lv' := [(2, .int (iI (bZ (48 ≤ (lk (fun x9 => g 5 (60 * t + x9)) (g 4 t) ((sk (fun x9 => g 5 (60 * t + x9)) (g 4 t) pl + 1) + k + 1)) ∧ (lk (fun x9 => g 5 (60 * t + x9)) (g 4 t) ((sk (fun x9 => g 5 (60 * t + x9)) (g 4 t) pl + 1) + k + 1)) ≤ 57)))), (0, .ref (a (0))), (1, .int (iI (t)))]) [0, 2, 3] rfl ?_
          exact v_g (by rw [rD_s _ _ _ _ _ _ _ (by omega), ← Int.add_assoc]) (ih26 (bZ (48 ≤ (lk (fun x9 => g 5 (60 * t + x9)) (g 4 t) ((sk (fun x9 => g 5 (60 * t + x9)) (g 4 t) pl + 1) + k + 1)) ∧ (lk (fun x9 => g 5 (60 * t + x9)) (g 4 t) ((sk (fun x9 => g 5 (60 * t + x9)) (g 4 t) pl + 1) + k + 1)) ≤ 57)) (k + 1) ⟨by omega, by omega, by omega, bZ_01 _, by omega, fun _ => by rw [← Int.add_assoc]; exact bZ_1 _, by rw [← hI26.2.2.2.2.2.2, ← Int.add_assoc]; exact (ff_n (by omega) (fun h => absurd (of_decide_eq_true h) (by omega))).symm⟩ (by omega))

set_option maxRecDepth 100000 in
set_option maxHeartbeats 4000000 in
theorem c_X5_skipsIf (l : Launch) (D : va_G) (yc : Nat → ClassId) (t1 t2 : Nat) (a : Int → Nat) (A : Nat → Prop) (g : Mm) (t : Int) (Dr : Int → Int) (pl wl : Int) (ht : 0 ≤ t ∧ t < 4) (hL : -1 ≤ g 4 t ∧ g 4 t ≤ 60) (HB : ∀ j, -128 ≤ g 5 j ∧ g 5 j ≤ 127) (hp : 0 ≤ pl ∧ pl ≤ 60) (hw : wl = 0 ∨ wl = 1) : Cv l yX5_skipsIf wsX5_skipsIf { frames := 2, cells := 0, slots := 0, locals := 42 } D yc t1 t2 A (mw a yc) [.ref (a (0)), .int (iI (t))] (pS g Dr pl wl) (fun g' => g' = (pS g Dr (if wl = 0 then pl else sk (fun x9 => g 5 (60 * t + x9)) (g 4 t) pl) wl)) := by
  refine start_v (cc := cX5_skipsIf) (nL := 2) (ret := none) (own := RX5) (by decide +kernel) rfl rfl (Nat.le_of_ble_eq_true rfl) ?_
  intro p e s m9 below meth c9 C
  have wf90 : Cond.fieldLink RX5 90 (TX5 16).1 (TX5 16).2.1 (TX5 16).2.2.1 ∈ wsX5_skipsIf := by decide +kernel
  have hinX5 : ∀ w ∈ u_ws RX5 TX5 17, w ∈ wsX5_skipsIf := by decide +kernel
  refine v_lv (lv' := [(0, .ref (a (0))), (1, .int (iI (t)))]) rfl ?_
  refine v_aload_n C 0 dX5_skipsIf_0 rfl ?_
  refine v_getf C (by omega) (by omega) ct_mod rfl 16 (by decide) wf90 hinX5 rfl dX5_skipsIf_1 ?_
  refine v_st (st' := [.int (iI (wl))]) (by rw [pS_w]) ?_
  refine v_if_eq (tgt := 12) C dX5_skipsIf_4 (by decide) (by omega) (fun c4 => ?_) (fun c4 => ?_)
  · skip
    exact v_ret_v C rfl dX5_skipsIf_12 (by first | rw [if_pos (by omega)] | rw [if_neg (by omega)])
  · skip
    refine v_aload_n C 0 dX5_skipsIf_7 rfl ?_
    refine v_iload_n C 1 dX5_skipsIf_8 rfl ?_
    refine v_cV_v C (As := [.int (iI (t))]) (rest := []) (c_X5_skips l D yc t1 t2 a A g t Dr pl wl (by omega) (by omega) HB (by omega)) (cwV 1 C.hts gX5_skipsIf_X5_skips rfl rfl rfl (by decide +kernel) ⟨by decide, by decide⟩) (fun H hP => va_recv C.hK hP (ci := 5) (q0 := (0 : Int).toNat) rfl (wo_is (by omega) (by omega) ct_mod)) rfl rfl (Nat.le_of_ble_eq_true rfl) dX5_skipsIf_9 ?_
    intro g9 h9
    rw [h9]
    clear h9 g9
    try dsimp only
    exact v_ret_v C rfl dX5_skipsIf_12 (by first | rw [if_pos (by omega)] | rw [if_neg (by omega)])

set_option maxRecDepth 100000 in
set_option maxHeartbeats 4000000 in
theorem c_X5_readsBeast (l : Launch) (D : va_G) (yc : Nat → ClassId) (t1 t2 : Nat) (a : Int → Nat) (A : Nat → Prop) (g : Mm) (t : Int) (Dr : Int → Int) (pl : Int) (ht : 0 ≤ t ∧ t < 4) (hL : -1 ≤ g 4 t ∧ g 4 t ≤ 60) (HB : ∀ j, -128 ≤ g 5 j ∧ g 5 j ≤ 127) (hp : 0 ≤ pl ∧ pl ≤ 60) (hn : 0 ≤ Dr 0 ∧ Dr 0 ≤ 6) : Cv l yX5_readsBeast wsX5_readsBeast { frames := 1, cells := 0, slots := 0, locals := 22 } D yc t1 t2 A (mw a yc) [.ref (a (0)), .int (iI (t))] (pS g Dr pl 1) (fun g' => g' = (pS g (bD (fun x9 => g 5 (60 * t + x9)) (g 4 t) Dr pl) (bP (fun x9 => g 5 (60 * t + x9)) (g 4 t) Dr pl) (bW (fun x9 => g 5 (60 * t + x9)) (g 4 t) Dr pl))) := by
  refine start_v (cc := cX5_readsBeast) (nL := 6) (ret := none) (own := RX5) (by decide +kernel) rfl rfl (Nat.le_of_ble_eq_true rfl) ?_
  intro p e s m9 below meth c9 C
  have wf28 : Cond.fieldLink RX5 28 (TX5 6).1 (TX5 6).2.1 (TX5 6).2.2.1 ∈ wsX5_readsBeast := by decide +kernel
  have hinX5 : ∀ w ∈ u_ws RX5 TX5 17, w ∈ wsX5_readsBeast := by decide +kernel
  have wf90 : Cond.fieldLink RX5 90 (TX5 16).1 (TX5 16).2.1 (TX5 16).2.2.1 ∈ wsX5_readsBeast := by decide +kernel
  have hl0 := lk_bd (B := (fun x9 => g 5 (60 * t + x9))) (fun j => HB (60 * t + j)) (g 4 t) pl
  have hl1 := lk_bd (B := (fun x9 => g 5 (60 * t + x9))) (fun j => HB (60 * t + j)) (g 4 t) (pl + 1)
  have hl2 := lk_bd (B := (fun x9 => g 5 (60 * t + x9))) (fun j => HB (60 * t + j)) (g 4 t) (pl + 2)
  have hk := kd_r (lk (fun x9 => g 5 (60 * t + x9)) (g 4 t) pl)
  have hq1 : ¬ kd (lk (fun x9 => g 5 (60 * t + x9)) (g 4 t) pl) = -9 → pl < (g 4 t) := fun h => kd_l h
  have hq2 : 1 ≤ lk (fun x9 => g 5 (60 * t + x9)) (g 4 t) (pl + 1) - 48 → pl + 1 < (g 4 t) := fun h => lk_32 (B := (fun x9 => g 5 (60 * t + x9))) (L := (g 4 t)) (p := pl + 1) (by omega)
  refine v_lv (lv' := [(0, .ref (a (0))), (1, .int (iI (t)))]) rfl ?_
  refine v_bipush C dX5_readsBeast_0 (by decide) ?_
  refine v_iconst C dX5_readsBeast_2 ?_
  refine v_aload_n C 0 dX5_readsBeast_3 rfl ?_
  refine v_getf C (by omega) (by omega) ct_mod rfl 6 (by decide) wf28 hinX5 rfl dX5_readsBeast_4 ?_
  refine v_iconst C dX5_readsBeast_7 ?_
  refine v_iaload C (by omega) (by omega) ct_mdraft (by omega) (by omega) (by decide) dX5_readsBeast_8 ?_
  refine v_st (st' := [.int (iI (Dr (0))), .int (iI (3)), .int (iI (20))]) (by rw [pS_D]) ?_
  refine v_bipush C dX5_readsBeast_9 (by decide) ?_
  refine v_cut1 24 (fun (v24 : Int) => 0 ≤ v24 ∧ v24 ≤ 5 ∧ (Dr 0 < 6 → v24 = Dr 0)) (fun (v24 : Int) => [(0, .ref (a (0))), (1, .int (iI (t)))]) (fun (v24 : Int) => [.int (iI (v24)), .int (iI (3)), .int (iI (20))]) (fun (v24 : Int) => (pS g Dr pl 1)) ?_ ?_
  · intro v24 hj24
    try dsimp only
    refine v_imul C dX5_readsBeast_24 ?_
    refine v_iadd C dX5_readsBeast_25 ?_
    refine v_istore_n (lv' := [(2, .int (iI (20 + (3 * v24)))), (0, .ref (a (0))), (1, .int (iI (t)))]) C dX5_readsBeast_26 (by decide) rfl ?_
    refine v_aload_n C 1 dX5_readsBeast_27 rfl ?_
    refine v_iload_n C 2 dX5_readsBeast_28 rfl ?_
    refine v_cV_i C (As := [.int (iI (t))]) (rest := []) (c_X5_look l D yc t1 t2 a A g t Dr pl 1 (by omega) (by omega) HB (by omega)) (cwV 1 C.hts gX5_readsBeast_X5_look rfl rfl rfl (by decide +kernel) ⟨by decide, by decide⟩) (fun H hP => va_recv C.hK hP (ci := 5) (q0 := (0 : Int).toNat) rfl (wo_is (by omega) (by omega) ct_mod)) rfl rfl (Nat.le_of_ble_eq_true rfl) dX5_readsBeast_29 ?_
    intro r9 g9 h9
    rw [h9.1, h9.2]
    clear h9 g9 r9
    try dsimp only
    refine v_cS_i C (As := [.int (iI (lk (fun x9 => g 5 (60 * t + x9)) (g 4 t) pl))]) (rest := []) (c_X5_kindOf l D yc t1 t2 A (mw a yc) (pS g Dr pl 1) (lk (fun x9 => g 5 (60 * t + x9)) (g 4 t) pl) (by omega)) (va_cwS 1 C.hts gX5_readsBeast_X5_kindOf rfl rfl rfl (by decide +kernel) ⟨by decide, by decide⟩) rfl rfl (Nat.le_of_ble_eq_true rfl) dX5_readsBeast_32 ?_
    intro r9 g9 h9
    rw [h9.1, h9.2]
    clear h9 g9 r9
    try dsimp only
    refine v_istore_n (lv' := [(3, .int (iI (kd (lk (fun x9 => g 5 (60 * t + x9)) (g 4 t) pl)))), (2, .int (iI (20 + (3 * v24)))), (0, .ref (a (0))), (1, .int (iI (t)))]) C dX5_readsBeast_35 (by decide) rfl ?_
    refine v_aload_n C 2 dX5_readsBeast_36 rfl ?_
    refine v_iload_n C 0 dX5_readsBeast_37 rfl ?_
    refine v_bipush C dX5_readsBeast_38 (by decide) ?_
    refine v_icmp_eq (tgt := 58) C dX5_readsBeast_40 (by decide) (by omega) (by omega) (fun c40 => ?_) (fun c40 => ?_)
    · skip
      refine v_iconst C dX5_readsBeast_58 ?_
      refine v_cV_v C (As := [.int (iI (0))]) (rest := []) (c_X5_takes l D yc t1 t2 a A g 0 Dr pl 1 (by omega) (by omega)) (cwV 1 C.hts gX5_readsBeast_X5_takes rfl rfl rfl (by decide +kernel) ⟨by decide, by decide⟩) (fun H hP => va_recv C.hK hP (ci := 5) (q0 := (0 : Int).toNat) rfl (wo_is (by omega) (by omega) ct_mod)) rfl rfl (Nat.le_of_ble_eq_true rfl) dX5_readsBeast_59 ?_
      intro g9 h9
      rw [h9]
      clear h9 g9
      try dsimp only
      refine v_g (g' := (pS g Dr pl 0)) (by rw [an_10, Int.add_zero]) ?_
      refine v_aload_n C 2 dX5_readsBeast_62 rfl ?_
      refine v_iload_n C 3 dX5_readsBeast_63 rfl ?_
      refine v_cV_i C (As := [.int (iI (t))]) (rest := []) (c_X5_look l D yc t1 t2 a A g t Dr pl 0 (by omega) (by omega) HB (by omega)) (cwV 1 C.hts gX5_readsBeast_X5_look rfl rfl rfl (by decide +kernel) ⟨by decide, by decide⟩) (fun H hP => va_recv C.hK hP (ci := 5) (q0 := (0 : Int).toNat) rfl (wo_is (by omega) (by omega) ct_mod)) rfl rfl (Nat.le_of_ble_eq_true rfl) dX5_readsBeast_64 ?_
      intro r9 g9 h9
      rw [h9.1, h9.2]
      clear h9 g9 r9
      try dsimp only
      refine v_bipush C dX5_readsBeast_67 (by decide) ?_
      refine v_isub C dX5_readsBeast_69 ?_
      refine v_istore (lv' := [(4, .int (iI ((lk (fun x9 => g 5 (60 * t + x9)) (g 4 t) pl) - 48))), (3, .int (iI (kd (lk (fun x9 => g 5 (60 * t + x9)) (g 4 t) pl)))), (2, .int (iI (20 + (3 * v24)))), (0, .ref (a (0))), (1, .int (iI (t)))]) C dX5_readsBeast_70 (by decide) rfl ?_
      refine v_aload_n C 3 dX5_readsBeast_72 rfl ?_
      refine v_iload C 0 dX5_readsBeast_73 rfl ?_
      refine v_iconst C dX5_readsBeast_75 ?_
      refine v_bipush C dX5_readsBeast_76 (by decide) ?_
      refine v_cS_i C (As := [.int (iI ((lk (fun x9 => g 5 (60 * t + x9)) (g 4 t) pl) - 48)), .int (iI (1)), .int (iI (9))]) (rest := [.ref (a (0))]) (c_X5_in l D yc t1 t2 A (mw a yc) (pS g Dr pl 0) ((lk (fun x9 => g 5 (60 * t + x9)) (g 4 t) pl) - 48) 1 9 (by omega) (by omega) (by omega)) (va_cwS 3 C.hts gX5_readsBeast_X5_in rfl rfl rfl (by decide +kernel) ⟨by decide, by decide⟩) rfl rfl (Nat.le_of_ble_eq_true rfl) dX5_readsBeast_78 ?_
      intro r9 g9 h9
      rw [h9.1, h9.2]
      clear h9 g9 r9
      try dsimp only
      refine v_st (st' := [.int (iI (bZ (1 ≤ ((lk (fun x9 => g 5 (60 * t + x9)) (g 4 t) pl) - 48) ∧ ((lk (fun x9 => g 5 (60 * t + x9)) (g 4 t) pl) - 48) ≤ 9))), .ref (a (0))]) (by rw [bI_Z]) ?_
      refine v_cV_v C (As := [.int (iI (bZ (1 ≤ ((lk (fun x9 => g 5 (60 * t + x9)) (g 4 t) pl) - 48) ∧ ((lk (fun x9 => g 5 (60 * t + x9)) (g 4 t) pl) - 48) ≤ 9)))]) (rest := []) (c_X5_takes l D yc t1 t2 a A g (bZ (1 ≤ ((lk (fun x9 => g 5 (60 * t + x9)) (g 4 t) pl) - 48) ∧ ((lk (fun x9 => g 5 (60 * t + x9)) (g 4 t) pl) - 48) ≤ 9)) Dr pl 0 (by omega) (bZ_01 _)) (cwV 1 C.hts gX5_readsBeast_X5_takes rfl rfl rfl (by decide +kernel) ⟨by decide, by decide⟩) (fun H hP => va_recv C.hK hP (ci := 5) (q0 := (0 : Int).toNat) rfl (wo_is (by omega) (by omega) ct_mod)) rfl rfl (Nat.le_of_ble_eq_true rfl) dX5_readsBeast_81 ?_
      intro g9 h9
      rw [h9]
      clear h9 g9
      try dsimp only
      refine v_g (g' := (pS g Dr pl 0)) (by rw [an_0, Int.add_zero]) ?_
      refine v_aload_n C 3 dX5_readsBeast_84 rfl ?_
      refine v_iload_n C 4 dX5_readsBeast_85 rfl ?_
      refine v_cV_i C (As := [.int (iI (t))]) (rest := []) (c_X5_look l D yc t1 t2 a A g t Dr pl 0 (by omega) (by omega) HB (by omega)) (cwV 1 C.hts gX5_readsBeast_X5_look rfl rfl rfl (by decide +kernel) ⟨by decide, by decide⟩) (fun H hP => va_recv C.hK hP (ci := 5) (q0 := (0 : Int).toNat) rfl (wo_is (by omega) (by omega) ct_mod)) rfl rfl (Nat.le_of_ble_eq_true rfl) dX5_readsBeast_86 ?_
      intro r9 g9 h9
      rw [h9.1, h9.2]
      clear h9 g9 r9
      try dsimp only
      refine v_bipush C dX5_readsBeast_89 (by decide) ?_
      refine v_isub C dX5_readsBeast_91 ?_
      refine v_istore (lv' := [(5, .int (iI ((lk (fun x9 => g 5 (60 * t + x9)) (g 4 t) pl) - 97))), (4, .int (iI ((lk (fun x9 => g 5 (60 * t + x9)) (g 4 t) pl) - 48))), (3, .int (iI (kd (lk (fun x9 => g 5 (60 * t + x9)) (g 4 t) pl)))), (2, .int (iI (20 + (3 * v24)))), (0, .ref (a (0))), (1, .int (iI (t)))]) C dX5_readsBeast_92 (by decide) rfl ?_
      refine v_aload_n C 4 dX5_readsBeast_94 rfl ?_
      refine v_iload C 0 dX5_readsBeast_95 rfl ?_
      refine v_iconst C dX5_readsBeast_97 ?_
      refine v_iconst C dX5_readsBeast_98 ?_
      refine v_cS_i C (As := [.int (iI ((lk (fun x9 => g 5 (60 * t + x9)) (g 4 t) pl) - 97)), .int (iI (0)), .int (iI (1))]) (rest := [.ref (a (0))]) (c_X5_in l D yc t1 t2 A (mw a yc) (pS g Dr pl 0) ((lk (fun x9 => g 5 (60 * t + x9)) (g 4 t) pl) - 97) 0 1 (by omega) (by omega) (by omega)) (va_cwS 3 C.hts gX5_readsBeast_X5_in rfl rfl rfl (by decide +kernel) ⟨by decide, by decide⟩) rfl rfl (Nat.le_of_ble_eq_true rfl) dX5_readsBeast_99 ?_
      intro r9 g9 h9
      rw [h9.1, h9.2]
      clear h9 g9 r9
      try dsimp only
      refine v_st (st' := [.int (iI (bZ (0 ≤ ((lk (fun x9 => g 5 (60 * t + x9)) (g 4 t) pl) - 97) ∧ ((lk (fun x9 => g 5 (60 * t + x9)) (g 4 t) pl) - 97) ≤ 1))), .ref (a (0))]) (by rw [bI_Z]) ?_
      refine v_cV_v C (As := [.int (iI (bZ (0 ≤ ((lk (fun x9 => g 5 (60 * t + x9)) (g 4 t) pl) - 97) ∧ ((lk (fun x9 => g 5 (60 * t + x9)) (g 4 t) pl) - 97) ≤ 1)))]) (rest := []) (c_X5_takes l D yc t1 t2 a A g (bZ (0 ≤ ((lk (fun x9 => g 5 (60 * t + x9)) (g 4 t) pl) - 97) ∧ ((lk (fun x9 => g 5 (60 * t + x9)) (g 4 t) pl) - 97) ≤ 1)) Dr pl 0 (by omega) (bZ_01 _)) (cwV 1 C.hts gX5_readsBeast_X5_takes rfl rfl rfl (by decide +kernel) ⟨by decide, by decide⟩) (fun H hP => va_recv C.hK hP (ci := 5) (q0 := (0 : Int).toNat) rfl (wo_is (by omega) (by omega) ct_mod)) rfl rfl (Nat.le_of_ble_eq_true rfl) dX5_readsBeast_102 ?_
      intro g9 h9
      rw [h9]
      clear h9 g9
      try dsimp only
      refine v_g (g' := (pS g Dr pl 0)) (by rw [an_0, Int.add_zero]) ?_
      refine v_aload_n C 4 dX5_readsBeast_105 rfl ?_
      refine v_getf C (by omega) (by omega) ct_mod rfl 16 (by decide) wf90 hinX5 rfl dX5_readsBeast_106 ?_
      refine v_st (st' := [.int (iI (0))]) (by rw [pS_w]) ?_
      refine v_if_eq (tgt := 149) C dX5_readsBeast_109 (by decide) (by decide) (fun _ => ?_) (fun h9 => absurd h9 (by decide))
      exact v_ret_v C rfl dX5_readsBeast_149 (by first | (have hb : ¬ b1 (fun x9 => g 5 (60 * t + x9)) (g 4 t) Dr pl := (by unfold b1; omega); unfold bD bP bW; rw [if_neg (fun h => hb h.1), if_neg hb, if_neg (fun h => hb h.1)]) | (have hb : b1 (fun x9 => g 5 (60 * t + x9)) (g 4 t) Dr pl := (by unfold b1; omega); first | (have h2 : ¬ b2 (fun x9 => g 5 (60 * t + x9)) (g 4 t) pl := f84; unfold bD bP bW; rw [if_neg (fun h => h2 h.2.1), if_pos hb, if_neg h2, if_neg (fun h => h2 h.2.1)]) | (have h2 : b2 (fun x9 => g 5 (60 * t + x9)) (g 4 t) pl := f84; first | (have h3 : ¬ b3 (fun x9 => g 5 (60 * t + x9)) (g 4 t) pl := f105; unfold bD bP bW; rw [if_neg (fun h => h3 h.2.2), if_pos hb, if_pos h2, if_neg h3, if_neg (fun h => h3 h.2.2)]) | (have h3 : b3 (fun x9 => g 5 (60 * t + x9)) (g 4 t) pl := f105; have hv : v24 = Dr 0 := hj24.2.2 (by omega); rw [hv]; unfold bD bP bW; rw [if_pos ⟨hb, h2, h3⟩, if_pos hb, if_pos h2, if_pos h3, if_pos ⟨hb, h2, h3⟩]))))
    · skip
      refine v_aload_n C 2 dX5_readsBeast_43 rfl ?_
      refine v_getf C (by omega) (by omega) ct_mod rfl 6 (by decide) wf28 hinX5 rfl dX5_readsBeast_44 ?_
      refine v_iconst C dX5_readsBeast_47 ?_
      refine v_iaload C (by omega) (by omega) ct_mdraft (by omega) (by omega) (by decide) dX5_readsBeast_48 ?_
      refine v_st (st' := [.int (iI (Dr (0))), .ref (a (0))]) (by rw [pS_D]) ?_
      refine v_bipush C dX5_readsBeast_49 (by decide) ?_
      refine v_icmp_ge (tgt := 58) C dX5_readsBeast_51 (by decide) (by omega) (by omega) (fun c51 => ?_) (fun c51 => ?_)
      · skip
        refine v_iconst C dX5_readsBeast_58 ?_
        refine v_cV_v C (As := [.int (iI (0))]) (rest := []) (c_X5_takes l D yc t1 t2 a A g 0 Dr pl 1 (by omega) (by omega)) (cwV 1 C.hts gX5_readsBeast_X5_takes rfl rfl rfl (by decide +kernel) ⟨by decide, by decide⟩) (fun H hP => va_recv C.hK hP (ci := 5) (q0 := (0 : Int).toNat) rfl (wo_is (by omega) (by omega) ct_mod)) rfl rfl (Nat.le_of_ble_eq_true rfl) dX5_readsBeast_59 ?_
        intro g9 h9
        rw [h9]
        clear h9 g9
        try dsimp only
        refine v_g (g' := (pS g Dr pl 0)) (by rw [an_10, Int.add_zero]) ?_
        refine v_aload_n C 2 dX5_readsBeast_62 rfl ?_
        refine v_iload_n C 3 dX5_readsBeast_63 rfl ?_
        refine v_cV_i C (As := [.int (iI (t))]) (rest := []) (c_X5_look l D yc t1 t2 a A g t Dr pl 0 (by omega) (by omega) HB (by omega)) (cwV 1 C.hts gX5_readsBeast_X5_look rfl rfl rfl (by decide +kernel) ⟨by decide, by decide⟩) (fun H hP => va_recv C.hK hP (ci := 5) (q0 := (0 : Int).toNat) rfl (wo_is (by omega) (by omega) ct_mod)) rfl rfl (Nat.le_of_ble_eq_true rfl) dX5_readsBeast_64 ?_
        intro r9 g9 h9
        rw [h9.1, h9.2]
        clear h9 g9 r9
        try dsimp only
        refine v_bipush C dX5_readsBeast_67 (by decide) ?_
        refine v_isub C dX5_readsBeast_69 ?_
        refine v_istore (lv' := [(4, .int (iI ((lk (fun x9 => g 5 (60 * t + x9)) (g 4 t) pl) - 48))), (3, .int (iI (kd (lk (fun x9 => g 5 (60 * t + x9)) (g 4 t) pl)))), (2, .int (iI (20 + (3 * v24)))), (0, .ref (a (0))), (1, .int (iI (t)))]) C dX5_readsBeast_70 (by decide) rfl ?_
        refine v_aload_n C 3 dX5_readsBeast_72 rfl ?_
        refine v_iload C 0 dX5_readsBeast_73 rfl ?_
        refine v_iconst C dX5_readsBeast_75 ?_
        refine v_bipush C dX5_readsBeast_76 (by decide) ?_
        refine v_cS_i C (As := [.int (iI ((lk (fun x9 => g 5 (60 * t + x9)) (g 4 t) pl) - 48)), .int (iI (1)), .int (iI (9))]) (rest := [.ref (a (0))]) (c_X5_in l D yc t1 t2 A (mw a yc) (pS g Dr pl 0) ((lk (fun x9 => g 5 (60 * t + x9)) (g 4 t) pl) - 48) 1 9 (by omega) (by omega) (by omega)) (va_cwS 3 C.hts gX5_readsBeast_X5_in rfl rfl rfl (by decide +kernel) ⟨by decide, by decide⟩) rfl rfl (Nat.le_of_ble_eq_true rfl) dX5_readsBeast_78 ?_
        intro r9 g9 h9
        rw [h9.1, h9.2]
        clear h9 g9 r9
        try dsimp only
        refine v_st (st' := [.int (iI (bZ (1 ≤ ((lk (fun x9 => g 5 (60 * t + x9)) (g 4 t) pl) - 48) ∧ ((lk (fun x9 => g 5 (60 * t + x9)) (g 4 t) pl) - 48) ≤ 9))), .ref (a (0))]) (by rw [bI_Z]) ?_
        refine v_cV_v C (As := [.int (iI (bZ (1 ≤ ((lk (fun x9 => g 5 (60 * t + x9)) (g 4 t) pl) - 48) ∧ ((lk (fun x9 => g 5 (60 * t + x9)) (g 4 t) pl) - 48) ≤ 9)))]) (rest := []) (c_X5_takes l D yc t1 t2 a A g (bZ (1 ≤ ((lk (fun x9 => g 5 (60 * t + x9)) (g 4 t) pl) - 48) ∧ ((lk (fun x9 => g 5 (60 * t + x9)) (g 4 t) pl) - 48) ≤ 9)) Dr pl 0 (by omega) (bZ_01 _)) (cwV 1 C.hts gX5_readsBeast_X5_takes rfl rfl rfl (by decide +kernel) ⟨by decide, by decide⟩) (fun H hP => va_recv C.hK hP (ci := 5) (q0 := (0 : Int).toNat) rfl (wo_is (by omega) (by omega) ct_mod)) rfl rfl (Nat.le_of_ble_eq_true rfl) dX5_readsBeast_81 ?_
        intro g9 h9
        rw [h9]
        clear h9 g9
        try dsimp only
        refine v_g (g' := (pS g Dr pl 0)) (by rw [an_0, Int.add_zero]) ?_
        refine v_aload_n C 3 dX5_readsBeast_84 rfl ?_
        refine v_iload_n C 4 dX5_readsBeast_85 rfl ?_
        refine v_cV_i C (As := [.int (iI (t))]) (rest := []) (c_X5_look l D yc t1 t2 a A g t Dr pl 0 (by omega) (by omega) HB (by omega)) (cwV 1 C.hts gX5_readsBeast_X5_look rfl rfl rfl (by decide +kernel) ⟨by decide, by decide⟩) (fun H hP => va_recv C.hK hP (ci := 5) (q0 := (0 : Int).toNat) rfl (wo_is (by omega) (by omega) ct_mod)) rfl rfl (Nat.le_of_ble_eq_true rfl) dX5_readsBeast_86 ?_
        intro r9 g9 h9
        rw [h9.1, h9.2]
        clear h9 g9 r9
        try dsimp only
        refine v_bipush C dX5_readsBeast_89 (by decide) ?_
        refine v_isub C dX5_readsBeast_91 ?_
        refine v_istore (lv' := [(5, .int (iI ((lk (fun x9 => g 5 (60 * t + x9)) (g 4 t) pl) - 97))), (4, .int (iI ((lk (fun x9 => g 5 (60 * t + x9)) (g 4 t) pl) - 48))), (3, .int (iI (kd (lk (fun x9 => g 5 (60 * t + x9)) (g 4 t) pl)))), (2, .int (iI (20 + (3 * v24)))), (0, .ref (a (0))), (1, .int (iI (t)))]) C dX5_readsBeast_92 (by decide) rfl ?_
        refine v_aload_n C 4 dX5_readsBeast_94 rfl ?_
        refine v_iload C 0 dX5_readsBeast_95 rfl ?_
        refine v_iconst C dX5_readsBeast_97 ?_
        refine v_iconst C dX5_readsBeast_98 ?_
        refine v_cS_i C (As := [.int (iI ((lk (fun x9 => g 5 (60 * t + x9)) (g 4 t) pl) - 97)), .int (iI (0)), .int (iI (1))]) (rest := [.ref (a (0))]) (c_X5_in l D yc t1 t2 A (mw a yc) (pS g Dr pl 0) ((lk (fun x9 => g 5 (60 * t + x9)) (g 4 t) pl) - 97) 0 1 (by omega) (by omega) (by omega)) (va_cwS 3 C.hts gX5_readsBeast_X5_in rfl rfl rfl (by decide +kernel) ⟨by decide, by decide⟩) rfl rfl (Nat.le_of_ble_eq_true rfl) dX5_readsBeast_99 ?_
        intro r9 g9 h9
        rw [h9.1, h9.2]
        clear h9 g9 r9
        try dsimp only
        refine v_st (st' := [.int (iI (bZ (0 ≤ ((lk (fun x9 => g 5 (60 * t + x9)) (g 4 t) pl) - 97) ∧ ((lk (fun x9 => g 5 (60 * t + x9)) (g 4 t) pl) - 97) ≤ 1))), .ref (a (0))]) (by rw [bI_Z]) ?_
        refine v_cV_v C (As := [.int (iI (bZ (0 ≤ ((lk (fun x9 => g 5 (60 * t + x9)) (g 4 t) pl) - 97) ∧ ((lk (fun x9 => g 5 (60 * t + x9)) (g 4 t) pl) - 97) ≤ 1)))]) (rest := []) (c_X5_takes l D yc t1 t2 a A g (bZ (0 ≤ ((lk (fun x9 => g 5 (60 * t + x9)) (g 4 t) pl) - 97) ∧ ((lk (fun x9 => g 5 (60 * t + x9)) (g 4 t) pl) - 97) ≤ 1)) Dr pl 0 (by omega) (bZ_01 _)) (cwV 1 C.hts gX5_readsBeast_X5_takes rfl rfl rfl (by decide +kernel) ⟨by decide, by decide⟩) (fun H hP => va_recv C.hK hP (ci := 5) (q0 := (0 : Int).toNat) rfl (wo_is (by omega) (by omega) ct_mod)) rfl rfl (Nat.le_of_ble_eq_true rfl) dX5_readsBeast_102 ?_
        intro g9 h9
        rw [h9]
        clear h9 g9
        try dsimp only
        refine v_g (g' := (pS g Dr pl 0)) (by rw [an_0, Int.add_zero]) ?_
        refine v_aload_n C 4 dX5_readsBeast_105 rfl ?_
        refine v_getf C (by omega) (by omega) ct_mod rfl 16 (by decide) wf90 hinX5 rfl dX5_readsBeast_106 ?_
        refine v_st (st' := [.int (iI (0))]) (by rw [pS_w]) ?_
        refine v_if_eq (tgt := 149) C dX5_readsBeast_109 (by decide) (by decide) (fun _ => ?_) (fun h9 => absurd h9 (by decide))
        exact v_ret_v C rfl dX5_readsBeast_149 (by first | (have hb : ¬ b1 (fun x9 => g 5 (60 * t + x9)) (g 4 t) Dr pl := (by unfold b1; omega); unfold bD bP bW; rw [if_neg (fun h => hb h.1), if_neg hb, if_neg (fun h => hb h.1)]) | (have hb : b1 (fun x9 => g 5 (60 * t + x9)) (g 4 t) Dr pl := (by unfold b1; omega); first | (have h2 : ¬ b2 (fun x9 => g 5 (60 * t + x9)) (g 4 t) pl := f84; unfold bD bP bW; rw [if_neg (fun h => h2 h.2.1), if_pos hb, if_neg h2, if_neg (fun h => h2 h.2.1)]) | (have h2 : b2 (fun x9 => g 5 (60 * t + x9)) (g 4 t) pl := f84; first | (have h3 : ¬ b3 (fun x9 => g 5 (60 * t + x9)) (g 4 t) pl := f105; unfold bD bP bW; rw [if_neg (fun h => h3 h.2.2), if_pos hb, if_pos h2, if_neg h3, if_neg (fun h => h3 h.2.2)]) | (have h3 : b3 (fun x9 => g 5 (60 * t + x9)) (g 4 t) pl := f105; have hv : v24 = Dr 0 := hj24.2.2 (by omega); rw [hv]; unfold bD bP bW; rw [if_pos ⟨hb, h2, h3⟩, if_pos hb, if_pos h2, if_pos h3, if_pos ⟨hb, h2, h3⟩]))))
      · skip
        refine v_iconst C dX5_readsBeast_54 ?_
        refine v_goto (tgt := 59) C dX5_readsBeast_55 (by decide) ?_
        refine v_cV_v C (As := [.int (iI (1))]) (rest := []) (c_X5_takes l D yc t1 t2 a A g 1 Dr pl 1 (by omega) (by omega)) (cwV 1 C.hts gX5_readsBeast_X5_takes rfl rfl rfl (by decide +kernel) ⟨by decide, by decide⟩) (fun H hP => va_recv C.hK hP (ci := 5) (q0 := (0 : Int).toNat) rfl (wo_is (by omega) (by omega) ct_mod)) rfl rfl (Nat.le_of_ble_eq_true rfl) dX5_readsBeast_59 ?_
        intro g9 h9
        rw [h9]
        clear h9 g9
        try dsimp only
        refine v_g (g' := (pS g Dr (pl + 1) 1)) (by rw [an_11]) ?_
        refine v_aload_n C 2 dX5_readsBeast_62 rfl ?_
        refine v_iload_n C 3 dX5_readsBeast_63 rfl ?_
        refine v_cV_i C (As := [.int (iI (t))]) (rest := []) (c_X5_look l D yc t1 t2 a A g t Dr (pl + 1) 1 (by omega) (by omega) HB (by omega)) (cwV 1 C.hts gX5_readsBeast_X5_look rfl rfl rfl (by decide +kernel) ⟨by decide, by decide⟩) (fun H hP => va_recv C.hK hP (ci := 5) (q0 := (0 : Int).toNat) rfl (wo_is (by omega) (by omega) ct_mod)) rfl rfl (Nat.le_of_ble_eq_true rfl) dX5_readsBeast_64 ?_
        intro r9 g9 h9
        rw [h9.1, h9.2]
        clear h9 g9 r9
        try dsimp only
        refine v_bipush C dX5_readsBeast_67 (by decide) ?_
        refine v_isub C dX5_readsBeast_69 ?_
        refine v_istore (lv' := [(4, .int (iI ((lk (fun x9 => g 5 (60 * t + x9)) (g 4 t) (pl + 1)) - 48))), (3, .int (iI (kd (lk (fun x9 => g 5 (60 * t + x9)) (g 4 t) pl)))), (2, .int (iI (20 + (3 * v24)))), (0, .ref (a (0))), (1, .int (iI (t)))]) C dX5_readsBeast_70 (by decide) rfl ?_
        refine v_aload_n C 3 dX5_readsBeast_72 rfl ?_
        refine v_iload C 0 dX5_readsBeast_73 rfl ?_
        refine v_iconst C dX5_readsBeast_75 ?_
        refine v_bipush C dX5_readsBeast_76 (by decide) ?_
        refine v_cS_i C (As := [.int (iI ((lk (fun x9 => g 5 (60 * t + x9)) (g 4 t) (pl + 1)) - 48)), .int (iI (1)), .int (iI (9))]) (rest := [.ref (a (0))]) (c_X5_in l D yc t1 t2 A (mw a yc) (pS g Dr (pl + 1) 1) ((lk (fun x9 => g 5 (60 * t + x9)) (g 4 t) (pl + 1)) - 48) 1 9 (by omega) (by omega) (by omega)) (va_cwS 3 C.hts gX5_readsBeast_X5_in rfl rfl rfl (by decide +kernel) ⟨by decide, by decide⟩) rfl rfl (Nat.le_of_ble_eq_true rfl) dX5_readsBeast_78 ?_
        intro r9 g9 h9
        rw [h9.1, h9.2]
        clear h9 g9 r9
        try dsimp only
        refine v_st (st' := [.int (iI (bZ (1 ≤ ((lk (fun x9 => g 5 (60 * t + x9)) (g 4 t) (pl + 1)) - 48) ∧ ((lk (fun x9 => g 5 (60 * t + x9)) (g 4 t) (pl + 1)) - 48) ≤ 9))), .ref (a (0))]) (by rw [bI_Z]) ?_
        refine v_cV_v C (As := [.int (iI (bZ (1 ≤ ((lk (fun x9 => g 5 (60 * t + x9)) (g 4 t) (pl + 1)) - 48) ∧ ((lk (fun x9 => g 5 (60 * t + x9)) (g 4 t) (pl + 1)) - 48) ≤ 9)))]) (rest := []) (c_X5_takes l D yc t1 t2 a A g (bZ (1 ≤ ((lk (fun x9 => g 5 (60 * t + x9)) (g 4 t) (pl + 1)) - 48) ∧ ((lk (fun x9 => g 5 (60 * t + x9)) (g 4 t) (pl + 1)) - 48) ≤ 9)) Dr (pl + 1) 1 (by omega) (bZ_01 _)) (cwV 1 C.hts gX5_readsBeast_X5_takes rfl rfl rfl (by decide +kernel) ⟨by decide, by decide⟩) (fun H hP => va_recv C.hK hP (ci := 5) (q0 := (0 : Int).toNat) rfl (wo_is (by omega) (by omega) ct_mod)) rfl rfl (Nat.le_of_ble_eq_true rfl) dX5_readsBeast_81 ?_
        intro g9 h9
        rw [h9]
        clear h9 g9
        try dsimp only
        rcases Classical.em ((1 ≤ ((lk (fun x9 => g 5 (60 * t + x9)) (g 4 t) (pl + 1)) - 48) ∧ ((lk (fun x9 => g 5 (60 * t + x9)) (g 4 t) (pl + 1)) - 48) ≤ 9)) with f84 | f84
        · skip
          refine v_g (g' := (pS g Dr (pl + 2) 1)) (by rw [an_t f84]; first | rfl | rw [Int.add_assoc]; rfl) ?_
          refine v_aload_n C 3 dX5_readsBeast_84 rfl ?_
          refine v_iload_n C 4 dX5_readsBeast_85 rfl ?_
          refine v_cV_i C (As := [.int (iI (t))]) (rest := []) (c_X5_look l D yc t1 t2 a A g t Dr (pl + 2) 1 (by omega) (by omega) HB (by omega)) (cwV 1 C.hts gX5_readsBeast_X5_look rfl rfl rfl (by decide +kernel) ⟨by decide, by decide⟩) (fun H hP => va_recv C.hK hP (ci := 5) (q0 := (0 : Int).toNat) rfl (wo_is (by omega) (by omega) ct_mod)) rfl rfl (Nat.le_of_ble_eq_true rfl) dX5_readsBeast_86 ?_
          intro r9 g9 h9
          rw [h9.1, h9.2]
          clear h9 g9 r9
          try dsimp only
          refine v_bipush C dX5_readsBeast_89 (by decide) ?_
          refine v_isub C dX5_readsBeast_91 ?_
          refine v_istore (lv' := [(5, .int (iI ((lk (fun x9 => g 5 (60 * t + x9)) (g 4 t) (pl + 2)) - 97))), (4, .int (iI ((lk (fun x9 => g 5 (60 * t + x9)) (g 4 t) (pl + 1)) - 48))), (3, .int (iI (kd (lk (fun x9 => g 5 (60 * t + x9)) (g 4 t) pl)))), (2, .int (iI (20 + (3 * v24)))), (0, .ref (a (0))), (1, .int (iI (t)))]) C dX5_readsBeast_92 (by decide) rfl ?_
          refine v_aload_n C 4 dX5_readsBeast_94 rfl ?_
          refine v_iload C 0 dX5_readsBeast_95 rfl ?_
          refine v_iconst C dX5_readsBeast_97 ?_
          refine v_iconst C dX5_readsBeast_98 ?_
          refine v_cS_i C (As := [.int (iI ((lk (fun x9 => g 5 (60 * t + x9)) (g 4 t) (pl + 2)) - 97)), .int (iI (0)), .int (iI (1))]) (rest := [.ref (a (0))]) (c_X5_in l D yc t1 t2 A (mw a yc) (pS g Dr (pl + 2) 1) ((lk (fun x9 => g 5 (60 * t + x9)) (g 4 t) (pl + 2)) - 97) 0 1 (by omega) (by omega) (by omega)) (va_cwS 3 C.hts gX5_readsBeast_X5_in rfl rfl rfl (by decide +kernel) ⟨by decide, by decide⟩) rfl rfl (Nat.le_of_ble_eq_true rfl) dX5_readsBeast_99 ?_
          intro r9 g9 h9
          rw [h9.1, h9.2]
          clear h9 g9 r9
          try dsimp only
          refine v_st (st' := [.int (iI (bZ (0 ≤ ((lk (fun x9 => g 5 (60 * t + x9)) (g 4 t) (pl + 2)) - 97) ∧ ((lk (fun x9 => g 5 (60 * t + x9)) (g 4 t) (pl + 2)) - 97) ≤ 1))), .ref (a (0))]) (by rw [bI_Z]) ?_
          refine v_cV_v C (As := [.int (iI (bZ (0 ≤ ((lk (fun x9 => g 5 (60 * t + x9)) (g 4 t) (pl + 2)) - 97) ∧ ((lk (fun x9 => g 5 (60 * t + x9)) (g 4 t) (pl + 2)) - 97) ≤ 1)))]) (rest := []) (c_X5_takes l D yc t1 t2 a A g (bZ (0 ≤ ((lk (fun x9 => g 5 (60 * t + x9)) (g 4 t) (pl + 2)) - 97) ∧ ((lk (fun x9 => g 5 (60 * t + x9)) (g 4 t) (pl + 2)) - 97) ≤ 1)) Dr (pl + 2) 1 (by omega) (bZ_01 _)) (cwV 1 C.hts gX5_readsBeast_X5_takes rfl rfl rfl (by decide +kernel) ⟨by decide, by decide⟩) (fun H hP => va_recv C.hK hP (ci := 5) (q0 := (0 : Int).toNat) rfl (wo_is (by omega) (by omega) ct_mod)) rfl rfl (Nat.le_of_ble_eq_true rfl) dX5_readsBeast_102 ?_
          intro g9 h9
          rw [h9]
          clear h9 g9
          try dsimp only
          rcases Classical.em ((0 ≤ ((lk (fun x9 => g 5 (60 * t + x9)) (g 4 t) (pl + 2)) - 97) ∧ ((lk (fun x9 => g 5 (60 * t + x9)) (g 4 t) (pl + 2)) - 97) ≤ 1)) with f105 | f105
          · skip
            refine v_g (g' := (pS g Dr (pl + 3) 1)) (by rw [an_t f105]; first | rfl | rw [Int.add_assoc]; rfl) ?_
            refine v_aload_n C 4 dX5_readsBeast_105 rfl ?_
            refine v_getf C (by omega) (by omega) ct_mod rfl 16 (by decide) wf90 hinX5 rfl dX5_readsBeast_106 ?_
            refine v_st (st' := [.int (iI (1))]) (by rw [pS_w]) ?_
            refine v_if_eq (tgt := 149) C dX5_readsBeast_109 (by decide) (by decide) (fun h9 => absurd h9 (by decide)) (fun _ => ?_)
            refine v_aload_n C 4 dX5_readsBeast_112 rfl ?_
            refine v_getf C (by omega) (by omega) ct_mod rfl 6 (by decide) wf28 hinX5 rfl dX5_readsBeast_113 ?_
            refine v_iload_n C 3 dX5_readsBeast_116 rfl ?_
            refine v_iload_n C 2 dX5_readsBeast_117 rfl ?_
            refine v_iastore C (ctm_L a yc) (by omega) (by omega) ct_mdraft (ct_mdraft).symm (by omega) (by omega) (by decide) dX5_readsBeast_118 ?_
            refine v_g (g' := (pS g (fu Dr (20 + (3 * v24)) (kd (lk (fun x9 => g 5 (60 * t + x9)) (g 4 t) pl))) (pl + 3) 1)) (pS_3 _ _ _ _ _ _) ?_
            refine v_aload_n C 4 dX5_readsBeast_119 rfl ?_
            refine v_getf C (by omega) (by omega) ct_mod rfl 6 (by decide) wf28 hinX5 rfl dX5_readsBeast_120 ?_
            refine v_iload_n C 3 dX5_readsBeast_123 rfl ?_
            refine v_iconst C dX5_readsBeast_124 ?_
            refine v_iadd C dX5_readsBeast_125 ?_
            refine v_iload C 1 dX5_readsBeast_126 rfl ?_
            refine v_iastore C (ctm_L a yc) (by omega) (by omega) ct_mdraft (ct_mdraft).symm (by omega) (by omega) (by decide) dX5_readsBeast_128 ?_
            refine v_g (g' := (pS g (fu (fu Dr (20 + (3 * v24)) (kd (lk (fun x9 => g 5 (60 * t + x9)) (g 4 t) pl))) ((20 + (3 * v24)) + 1) ((lk (fun x9 => g 5 (60 * t + x9)) (g 4 t) (pl + 1)) - 48)) (pl + 3) 1)) (pS_3 _ _ _ _ _ _) ?_
            refine v_aload_n C 4 dX5_readsBeast_129 rfl ?_
            refine v_getf C (by omega) (by omega) ct_mod rfl 6 (by decide) wf28 hinX5 rfl dX5_readsBeast_130 ?_
            refine v_iload_n C 3 dX5_readsBeast_133 rfl ?_
            refine v_iconst C dX5_readsBeast_134 ?_
            refine v_iadd C dX5_readsBeast_135 ?_
            refine v_iload C 0 dX5_readsBeast_136 rfl ?_
            refine v_iastore C (ctm_L a yc) (by omega) (by omega) ct_mdraft (ct_mdraft).symm (by omega) (by omega) (by decide) dX5_readsBeast_138 ?_
            refine v_g (g' := (pS g (fu (fu (fu Dr (20 + (3 * v24)) (kd (lk (fun x9 => g 5 (60 * t + x9)) (g 4 t) pl))) ((20 + (3 * v24)) + 1) ((lk (fun x9 => g 5 (60 * t + x9)) (g 4 t) (pl + 1)) - 48)) ((20 + (3 * v24)) + 2) ((lk (fun x9 => g 5 (60 * t + x9)) (g 4 t) (pl + 2)) - 97)) (pl + 3) 1)) (pS_3 _ _ _ _ _ _) ?_
            refine v_aload_n C 4 dX5_readsBeast_139 rfl ?_
            refine v_getf C (by omega) (by omega) ct_mod rfl 6 (by decide) wf28 hinX5 rfl dX5_readsBeast_140 ?_
            refine v_iconst C dX5_readsBeast_143 ?_
            refine v_dup2 C dX5_readsBeast_144 rfl rfl ?_
            refine v_iaload C (by omega) (by omega) ct_mdraft (by omega) (by omega) (by decide) dX5_readsBeast_145 ?_
            refine v_st (st' := [.int (iI ((fu (fu (fu Dr (20 + (3 * v24)) (kd (lk (fun x9 => g 5 (60 * t + x9)) (g 4 t) pl))) ((20 + (3 * v24)) + 1) ((lk (fun x9 => g 5 (60 * t + x9)) (g 4 t) (pl + 1)) - 48)) ((20 + (3 * v24)) + 2) ((lk (fun x9 => g 5 (60 * t + x9)) (g 4 t) (pl + 2)) - 97)) (0))), .int (iI (0)), .ref (a (7))]) (by rw [pS_D]) ?_
            refine v_st (st' := [.int (iI (Dr 0)), .int (iI (0)), .ref (a (7))]) (by rw [fu_ne (by omega), fu_ne (by omega), fu_ne (by omega)]) ?_
            refine v_iconst C dX5_readsBeast_146 ?_
            refine v_iadd C dX5_readsBeast_147 ?_
            refine v_iastore C (ctm_L a yc) (by omega) (by omega) ct_mdraft (ct_mdraft).symm (by omega) (by omega) (by decide) dX5_readsBeast_148 ?_
            refine v_g (g' := (pS g (fu (fu (fu (fu Dr (20 + (3 * v24)) (kd (lk (fun x9 => g 5 (60 * t + x9)) (g 4 t) pl))) ((20 + (3 * v24)) + 1) ((lk (fun x9 => g 5 (60 * t + x9)) (g 4 t) (pl + 1)) - 48)) ((20 + (3 * v24)) + 2) ((lk (fun x9 => g 5 (60 * t + x9)) (g 4 t) (pl + 2)) - 97)) 0 ((Dr 0) + 1)) (pl + 3) 1)) (pS_3 _ _ _ _ _ _) ?_
            exact v_ret_v C rfl dX5_readsBeast_149 (by first | (have hb : ¬ b1 (fun x9 => g 5 (60 * t + x9)) (g 4 t) Dr pl := (by unfold b1; omega); unfold bD bP bW; rw [if_neg (fun h => hb h.1), if_neg hb, if_neg (fun h => hb h.1)]) | (have hb : b1 (fun x9 => g 5 (60 * t + x9)) (g 4 t) Dr pl := (by unfold b1; omega); first | (have h2 : ¬ b2 (fun x9 => g 5 (60 * t + x9)) (g 4 t) pl := f84; unfold bD bP bW; rw [if_neg (fun h => h2 h.2.1), if_pos hb, if_neg h2, if_neg (fun h => h2 h.2.1)]) | (have h2 : b2 (fun x9 => g 5 (60 * t + x9)) (g 4 t) pl := f84; first | (have h3 : ¬ b3 (fun x9 => g 5 (60 * t + x9)) (g 4 t) pl := f105; unfold bD bP bW; rw [if_neg (fun h => h3 h.2.2), if_pos hb, if_pos h2, if_neg h3, if_neg (fun h => h3 h.2.2)]) | (have h3 : b3 (fun x9 => g 5 (60 * t + x9)) (g 4 t) pl := f105; have hv : v24 = Dr 0 := hj24.2.2 (by omega); rw [hv]; unfold bD bP bW; rw [if_pos ⟨hb, h2, h3⟩, if_pos hb, if_pos h2, if_pos h3, if_pos ⟨hb, h2, h3⟩]))))
          · skip
            refine v_g (g' := (pS g Dr (pl + 2) 0)) (by rw [an_f f105, Int.add_zero]) ?_
            refine v_aload_n C 4 dX5_readsBeast_105 rfl ?_
            refine v_getf C (by omega) (by omega) ct_mod rfl 16 (by decide) wf90 hinX5 rfl dX5_readsBeast_106 ?_
            refine v_st (st' := [.int (iI (0))]) (by rw [pS_w]) ?_
            refine v_if_eq (tgt := 149) C dX5_readsBeast_109 (by decide) (by decide) (fun _ => ?_) (fun h9 => absurd h9 (by decide))
            exact v_ret_v C rfl dX5_readsBeast_149 (by first | (have hb : ¬ b1 (fun x9 => g 5 (60 * t + x9)) (g 4 t) Dr pl := (by unfold b1; omega); unfold bD bP bW; rw [if_neg (fun h => hb h.1), if_neg hb, if_neg (fun h => hb h.1)]) | (have hb : b1 (fun x9 => g 5 (60 * t + x9)) (g 4 t) Dr pl := (by unfold b1; omega); first | (have h2 : ¬ b2 (fun x9 => g 5 (60 * t + x9)) (g 4 t) pl := f84; unfold bD bP bW; rw [if_neg (fun h => h2 h.2.1), if_pos hb, if_neg h2, if_neg (fun h => h2 h.2.1)]) | (have h2 : b2 (fun x9 => g 5 (60 * t + x9)) (g 4 t) pl := f84; first | (have h3 : ¬ b3 (fun x9 => g 5 (60 * t + x9)) (g 4 t) pl := f105; unfold bD bP bW; rw [if_neg (fun h => h3 h.2.2), if_pos hb, if_pos h2, if_neg h3, if_neg (fun h => h3 h.2.2)]) | (have h3 : b3 (fun x9 => g 5 (60 * t + x9)) (g 4 t) pl := f105; have hv : v24 = Dr 0 := hj24.2.2 (by omega); rw [hv]; unfold bD bP bW; rw [if_pos ⟨hb, h2, h3⟩, if_pos hb, if_pos h2, if_pos h3, if_pos ⟨hb, h2, h3⟩]))))
        · skip
          refine v_g (g' := (pS g Dr (pl + 1) 0)) (by rw [an_f f84, Int.add_zero]) ?_
          refine v_aload_n C 3 dX5_readsBeast_84 rfl ?_
          refine v_iload_n C 4 dX5_readsBeast_85 rfl ?_
          refine v_cV_i C (As := [.int (iI (t))]) (rest := []) (c_X5_look l D yc t1 t2 a A g t Dr (pl + 1) 0 (by omega) (by omega) HB (by omega)) (cwV 1 C.hts gX5_readsBeast_X5_look rfl rfl rfl (by decide +kernel) ⟨by decide, by decide⟩) (fun H hP => va_recv C.hK hP (ci := 5) (q0 := (0 : Int).toNat) rfl (wo_is (by omega) (by omega) ct_mod)) rfl rfl (Nat.le_of_ble_eq_true rfl) dX5_readsBeast_86 ?_
          intro r9 g9 h9
          rw [h9.1, h9.2]
          clear h9 g9 r9
          try dsimp only
          refine v_bipush C dX5_readsBeast_89 (by decide) ?_
          refine v_isub C dX5_readsBeast_91 ?_
          refine v_istore (lv' := [(5, .int (iI ((lk (fun x9 => g 5 (60 * t + x9)) (g 4 t) (pl + 1)) - 97))), (4, .int (iI ((lk (fun x9 => g 5 (60 * t + x9)) (g 4 t) (pl + 1)) - 48))), (3, .int (iI (kd (lk (fun x9 => g 5 (60 * t + x9)) (g 4 t) pl)))), (2, .int (iI (20 + (3 * v24)))), (0, .ref (a (0))), (1, .int (iI (t)))]) C dX5_readsBeast_92 (by decide) rfl ?_
          refine v_aload_n C 4 dX5_readsBeast_94 rfl ?_
          refine v_iload C 0 dX5_readsBeast_95 rfl ?_
          refine v_iconst C dX5_readsBeast_97 ?_
          refine v_iconst C dX5_readsBeast_98 ?_
          refine v_cS_i C (As := [.int (iI ((lk (fun x9 => g 5 (60 * t + x9)) (g 4 t) (pl + 1)) - 97)), .int (iI (0)), .int (iI (1))]) (rest := [.ref (a (0))]) (c_X5_in l D yc t1 t2 A (mw a yc) (pS g Dr (pl + 1) 0) ((lk (fun x9 => g 5 (60 * t + x9)) (g 4 t) (pl + 1)) - 97) 0 1 (by omega) (by omega) (by omega)) (va_cwS 3 C.hts gX5_readsBeast_X5_in rfl rfl rfl (by decide +kernel) ⟨by decide, by decide⟩) rfl rfl (Nat.le_of_ble_eq_true rfl) dX5_readsBeast_99 ?_
          intro r9 g9 h9
          rw [h9.1, h9.2]
          clear h9 g9 r9
          try dsimp only
          refine v_st (st' := [.int (iI (bZ (0 ≤ ((lk (fun x9 => g 5 (60 * t + x9)) (g 4 t) (pl + 1)) - 97) ∧ ((lk (fun x9 => g 5 (60 * t + x9)) (g 4 t) (pl + 1)) - 97) ≤ 1))), .ref (a (0))]) (by rw [bI_Z]) ?_
          refine v_cV_v C (As := [.int (iI (bZ (0 ≤ ((lk (fun x9 => g 5 (60 * t + x9)) (g 4 t) (pl + 1)) - 97) ∧ ((lk (fun x9 => g 5 (60 * t + x9)) (g 4 t) (pl + 1)) - 97) ≤ 1)))]) (rest := []) (c_X5_takes l D yc t1 t2 a A g (bZ (0 ≤ ((lk (fun x9 => g 5 (60 * t + x9)) (g 4 t) (pl + 1)) - 97) ∧ ((lk (fun x9 => g 5 (60 * t + x9)) (g 4 t) (pl + 1)) - 97) ≤ 1)) Dr (pl + 1) 0 (by omega) (bZ_01 _)) (cwV 1 C.hts gX5_readsBeast_X5_takes rfl rfl rfl (by decide +kernel) ⟨by decide, by decide⟩) (fun H hP => va_recv C.hK hP (ci := 5) (q0 := (0 : Int).toNat) rfl (wo_is (by omega) (by omega) ct_mod)) rfl rfl (Nat.le_of_ble_eq_true rfl) dX5_readsBeast_102 ?_
          intro g9 h9
          rw [h9]
          clear h9 g9
          try dsimp only
          refine v_g (g' := (pS g Dr (pl + 1) 0)) (by rw [an_0, Int.add_zero]) ?_
          refine v_aload_n C 4 dX5_readsBeast_105 rfl ?_
          refine v_getf C (by omega) (by omega) ct_mod rfl 16 (by decide) wf90 hinX5 rfl dX5_readsBeast_106 ?_
          refine v_st (st' := [.int (iI (0))]) (by rw [pS_w]) ?_
          refine v_if_eq (tgt := 149) C dX5_readsBeast_109 (by decide) (by decide) (fun _ => ?_) (fun h9 => absurd h9 (by decide))
          exact v_ret_v C rfl dX5_readsBeast_149 (by first | (have hb : ¬ b1 (fun x9 => g 5 (60 * t + x9)) (g 4 t) Dr pl := (by unfold b1; omega); unfold bD bP bW; rw [if_neg (fun h => hb h.1), if_neg hb, if_neg (fun h => hb h.1)]) | (have hb : b1 (fun x9 => g 5 (60 * t + x9)) (g 4 t) Dr pl := (by unfold b1; omega); first | (have h2 : ¬ b2 (fun x9 => g 5 (60 * t + x9)) (g 4 t) pl := f84; unfold bD bP bW; rw [if_neg (fun h => h2 h.2.1), if_pos hb, if_neg h2, if_neg (fun h => h2 h.2.1)]) | (have h2 : b2 (fun x9 => g 5 (60 * t + x9)) (g 4 t) pl := f84; first | (have h3 : ¬ b3 (fun x9 => g 5 (60 * t + x9)) (g 4 t) pl := f105; unfold bD bP bW; rw [if_neg (fun h => h3 h.2.2), if_pos hb, if_pos h2, if_neg h3, if_neg (fun h => h3 h.2.2)]) | (have h3 : b3 (fun x9 => g 5 (60 * t + x9)) (g 4 t) pl := f105; have hv : v24 = Dr 0 := hj24.2.2 (by omega); rw [hv]; unfold bD bP bW; rw [if_pos ⟨hb, h2, h3⟩, if_pos hb, if_pos h2, if_pos h3, if_pos ⟨hb, h2, h3⟩]))))
  · intro jn24
    try dsimp only at jn24
    refine v_icmp_ge (tgt := 23) C dX5_readsBeast_11 (by decide) (by omega) (by omega) (fun c11 => ?_) (fun c11 => ?_)
    · skip
      refine v_iconst C dX5_readsBeast_23 ?_
      exact jn24 0 (by omega)
    · skip
      refine v_aload_n C 0 dX5_readsBeast_14 rfl ?_
      refine v_getf C (by omega) (by omega) ct_mod rfl 6 (by decide) wf28 hinX5 rfl dX5_readsBeast_15 ?_
      refine v_iconst C dX5_readsBeast_18 ?_
      refine v_iaload C (by omega) (by omega) ct_mdraft (by omega) (by omega) (by decide) dX5_readsBeast_19 ?_
      refine v_st (st' := [.int (iI (Dr (0))), .int (iI (3)), .int (iI (20))]) (by rw [pS_D]) ?_
      refine v_goto (tgt := 24) C dX5_readsBeast_20 (by decide) ?_
      exact jn24 (Dr (0)) (by omega)

set_option maxRecDepth 100000 in
set_option maxHeartbeats 4000000 in
theorem c_X5_reads (l : Launch) (D : va_G) (yc : Nat → ClassId) (t1 t2 : Nat) (a : Int → Nat) (A : Nat → Prop) (g : Mm) (t : Int) (ht : 0 ≤ t ∧ t < 4) (hL : -1 ≤ g 4 t ∧ g 4 t ≤ 60) (HB : ∀ j, -128 ≤ g 5 j ∧ g 5 j ≤ 127) : Ci l yX5_reads wsX5_reads { frames := 3, cells := 0, slots := 0, locals := 65 } D yc t1 t2 A (mw a yc) [.ref (a (0)), .int (iI (t))] g (fun r9 g' => r9 = (iI (if (qB (fun x9 => g 5 (60 * t + x9)) (g 4 t) (zD g)).2.1 = 0 then (qB (fun x9 => g 5 (60 * t + x9)) (g 4 t) (zD g)).1 else -9)) ∧ g' = pS g (qB (fun x9 => g 5 (60 * t + x9)) (g 4 t) (zD g)).2.2 (qB (fun x9 => g 5 (60 * t + x9)) (g 4 t) (zD g)).1 (qB (fun x9 => g 5 (60 * t + x9)) (g 4 t) (zD g)).2.1) := by
  refine start_i (cc := cX5_reads) (nL := 3) (ret := (some .int)) (own := RX5) (by decide +kernel) rfl rfl (Nat.le_of_ble_eq_true rfl) ?_
  intro p e s m9 below meth c9 C
  have wf84 : Cond.fieldLink RX5 84 (TX5 15).1 (TX5 15).2.1 (TX5 15).2.2.1 ∈ wsX5_reads := by decide +kernel
  have hinX5 : ∀ w ∈ u_ws RX5 TX5 17, w ∈ wsX5_reads := by decide +kernel
  have wf90 : Cond.fieldLink RX5 90 (TX5 16).1 (TX5 16).2.1 (TX5 16).2.2.1 ∈ wsX5_reads := by decide +kernel
  have wf19 : Cond.fieldLink RX5 19 (TX5 3).1 (TX5 3).2.1 (TX5 3).2.2.1 ∈ wsX5_reads := by decide +kernel
  have wf28 : Cond.fieldLink RX5 28 (TX5 6).1 (TX5 6).2.1 (TX5 6).2.2.1 ∈ wsX5_reads := by decide +kernel
  have hT := qT_r (B := (fun x9 => g 5 (60 * t + x9))) (D := zD g) hL.2
  have hM := qM_r (B := (fun x9 => g 5 (60 * t + x9))) (D := zD g) hL.2
  have hs := sk_r (fun x9 => g 5 (60 * t + x9)) (L := (g 4 t)) (p := (qM (fun x9 => g 5 (60 * t + x9)) (g 4 t) (zD g)).1) hL.2 hM.2
  have hM0 : (qM (fun x9 => g 5 (60 * t + x9)) (g 4 t) (zD g)).2.2 0 = 0 := (by rw [qM_o hL.2 (by decide) (by decide) (by decide)]; exact zD_0 g (by decide) (by decide))
  have hT2 : (qT (fun x9 => g 5 (60 * t + x9)) (g 4 t) (zD g)).2.2 2 = 0 := (by rw [qT_o hL.2 (by decide) (by decide)]; exact zD_0 g (by decide) (by decide))
  have hB1 := bP_r (B := (fun x9 => g 5 (60 * t + x9))) (L := (g 4 t)) (D := (qM (fun x9 => g 5 (60 * t + x9)) (g 4 t) (zD g)).2.2) (p := sk (fun x9 => g 5 (60 * t + x9)) (g 4 t) ((qM (fun x9 => g 5 (60 * t + x9)) (g 4 t) (zD g)).1)) (by omega) hL.2 hs.2
  refine v_lv (lv' := [(0, .ref (a (0))), (1, .int (iI (t)))]) rfl ?_
  refine v_iconst C dX5_reads_0 ?_
  refine v_istore_n (lv' := [(2, .int (iI (0))), (0, .ref (a (0))), (1, .int (iI (t)))]) C dX5_reads_1 (by decide) rfl ?_
  refine v_g (g' := (fls g 7 0 0 0)) (by rw [fls_0]) ?_
  refine v_lv (congrArg (fun x9 => ([(2, .int (iI x9)), (0, .ref (a (0))), (1, .int (iI (t)))] : List (Nat × Value))) (show (0) = (((0 : Int))) by first | rfl | omega | (simp; done))) ?_
  refine v_loop1 (fun (j : Int) => (98 - j).toNat) (fun (j : Int) => 0 ≤ j ∧ j ≤ 98) (fun (j : Int) => [(2, .int (iI (j))), (0, .ref (a (0))), (1, .int (iI (t)))]) (fun (j : Int) => (fls g 7 0 j 0)) ?_ 0 (by omega)
  intro j hI2 ih2
  try dsimp only at ih2 ⊢
  refine v_iload_n C 0 dX5_reads_2 rfl ?_
  refine v_bipush C dX5_reads_3 (by decide) ?_
  refine v_icmp_ge (tgt := 21) C dX5_reads_5 (by decide) (by omega) (by omega) (fun c5 => ?_) (fun c5 => ?_)
  · skip
    refine v_aload_n C 1 dX5_reads_21 rfl ?_
    refine v_iconst C dX5_reads_22 ?_
    refine v_puti C (ctm_L a yc) (by omega) (by omega) ct_mod rfl 15 (by decide) wf84 hinX5 tyX5 tyX5_ok nmX5 rfl (by decide +kernel) (by simp) cs_mod_15 dX5_reads_23 ?_
    refine v_g (g' := (mu (fls g 7 0 j 0) (0) (15) (0))) rfl ?_
    refine v_aload_n C 1 dX5_reads_26 rfl ?_
    refine v_iconst C dX5_reads_27 ?_
    refine v_putz C (ctm_L a yc) (by omega) (by omega) ct_mod rfl 16 (by decide) wf90 hinX5 tyX5 tyX5_ok nmX5 rfl (by decide +kernel) (by simp) (by omega) cs_mod_16 dX5_reads_28 ?_
    refine v_g (g' := (mu (mu (fls g 7 0 j 0) (0) (15) (0)) (0) (16) (1))) rfl ?_
    refine v_g (g' := (pS g (zD g) 0 1)) (by unfold pS; rw [← fls_zD, show j = 98 by omega]) ?_
    refine v_aload_n C 1 dX5_reads_31 rfl ?_
    refine v_iload_n C 2 dX5_reads_32 rfl ?_
    refine v_cV_v C (As := [.int (iI (t))]) (rest := []) (c_X5_readsTurns l D yc t1 t2 a A g t (zD g) 0 (by omega) (by omega) HB (by omega) (zD_0 g (by decide) (by decide))) (cwV 1 C.hts gX5_reads_X5_readsTurns rfl rfl rfl (by decide +kernel) ⟨by decide, by decide⟩) (fun H hP => va_recv C.hK hP (ci := 5) (q0 := (0 : Int).toNat) rfl (wo_is (by omega) (by omega) ct_mod)) rfl rfl (Nat.le_of_ble_eq_true rfl) dX5_reads_33 ?_
    intro g9 h9
    rw [h9]
    clear h9 g9
    try dsimp only
    rcases Classical.em ((qT (fun x9 => g 5 (60 * t + x9)) (g 4 t) (zD g)).2.1 = 0) with f36 | f36
    · skip
      refine v_g (g' := (pS g ((qT (fun x9 => g 5 (60 * t + x9)) (g 4 t) (zD g)).2.2) ((qT (fun x9 => g 5 (60 * t + x9)) (g 4 t) (zD g)).1) 0)) (congrArg (pS g (qT (fun x9 => g 5 (60 * t + x9)) (g 4 t) (zD g)).2.2 (qT (fun x9 => g 5 (60 * t + x9)) (g 4 t) (zD g)).1) (show (qT (fun x9 => g 5 (60 * t + x9)) (g 4 t) (zD g)).2.1 = 0 from f36)) ?_
      refine v_aload_n C 1 dX5_reads_36 rfl ?_
      refine v_getf C (by omega) (by omega) ct_mod rfl 16 (by decide) wf90 hinX5 rfl dX5_reads_37 ?_
      refine v_st (st' := [.int (iI (0))]) (by rw [pS_w]) ?_
      refine v_if_eq (tgt := 48) C dX5_reads_40 (by decide) (by decide) (fun _ => ?_) (fun h9 => absurd h9 (by decide))
      refine v_g (g' := (pS g ((qM (fun x9 => g 5 (60 * t + x9)) (g 4 t) (zD g)).2.2) ((qM (fun x9 => g 5 (60 * t + x9)) (g 4 t) (zD g)).1) 0)) (by rw [qM_y f36]) ?_
      refine v_aload_n C 1 dX5_reads_48 rfl ?_
      refine v_iload_n C 2 dX5_reads_49 rfl ?_
      refine v_cV_v C (As := [.int (iI (t))]) (rest := []) (c_X5_skipsIf l D yc t1 t2 a A g t ((qM (fun x9 => g 5 (60 * t + x9)) (g 4 t) (zD g)).2.2) ((qM (fun x9 => g 5 (60 * t + x9)) (g 4 t) (zD g)).1) 0 (by omega) (by omega) HB (by omega) (by omega)) (cwV 1 C.hts gX5_reads_X5_skipsIf rfl rfl rfl (by decide +kernel) ⟨by decide, by decide⟩) (fun H hP => va_recv C.hK hP (ci := 5) (q0 := (0 : Int).toNat) rfl (wo_is (by omega) (by omega) ct_mod)) rfl rfl (Nat.le_of_ble_eq_true rfl) dX5_reads_50 ?_
      intro g9 h9
      rw [h9]
      clear h9 g9
      try dsimp only
      refine v_g (g' := (pS g (((qM (fun x9 => g 5 (60 * t + x9)) (g 4 t) (zD g)).2.2)) ((qM (fun x9 => g 5 (60 * t + x9)) (g 4 t) (zD g)).1) 0)) (by rw [if_pos rfl]) ?_
      refine v_aload_n C 1 dX5_reads_53 rfl ?_
      refine v_getf C (by omega) (by omega) ct_mod rfl 16 (by decide) wf90 hinX5 rfl dX5_reads_54 ?_
      refine v_st (st' := [.int (iI (0))]) (by rw [pS_w]) ?_
      refine v_if_eq (tgt := 65) C dX5_reads_57 (by decide) (by decide) (fun _ => ?_) (fun h9 => absurd h9 (by decide))
      have hbw := bW_01 (fun x9 => g 5 (60 * t + x9)) (g 4 t) (qM (fun x9 => g 5 (60 * t + x9)) (g 4 t) (zD g)).2.2 (sk (fun x9 => g 5 (60 * t + x9)) (g 4 t) ((qM (fun x9 => g 5 (60 * t + x9)) (g 4 t) (zD g)).1))
      have hb6 := bW_6 (B := (fun x9 => g 5 (60 * t + x9))) (L := (g 4 t)) (D := (qM (fun x9 => g 5 (60 * t + x9)) (g 4 t) (zD g)).2.2) (p := sk (fun x9 => g 5 (60 * t + x9)) (g 4 t) ((qM (fun x9 => g 5 (60 * t + x9)) (g 4 t) (zD g)).1))
      have hs2 := sk_r (fun x9 => g 5 (60 * t + x9)) (L := (g 4 t)) (p := bP (fun x9 => g 5 (60 * t + x9)) (g 4 t) (qM (fun x9 => g 5 (60 * t + x9)) (g 4 t) (zD g)).2.2 (sk (fun x9 => g 5 (60 * t + x9)) (g 4 t) ((qM (fun x9 => g 5 (60 * t + x9)) (g 4 t) (zD g)).1))) hL.2 (by omega)
      refine v_aload_n C 1 dX5_reads_65 rfl ?_
      refine v_iload_n C 2 dX5_reads_66 rfl ?_
      refine v_cV_v C (As := [.int (iI (t))]) (rest := []) (c_X5_skipsIf l D yc t1 t2 a A g t (((qM (fun x9 => g 5 (60 * t + x9)) (g 4 t) (zD g)).2.2)) ((qM (fun x9 => g 5 (60 * t + x9)) (g 4 t) (zD g)).1) 0 (by omega) (by omega) HB (by omega) (by omega)) (cwV 1 C.hts gX5_reads_X5_skipsIf rfl rfl rfl (by decide +kernel) ⟨by decide, by decide⟩) (fun H hP => va_recv C.hK hP (ci := 5) (q0 := (0 : Int).toNat) rfl (wo_is (by omega) (by omega) ct_mod)) rfl rfl (Nat.le_of_ble_eq_true rfl) dX5_reads_67 ?_
      intro g9 h9
      rw [h9]
      clear h9 g9
      try dsimp only
      refine v_g (g' := (pS g ((((qM (fun x9 => g 5 (60 * t + x9)) (g 4 t) (zD g)).2.2))) ((qM (fun x9 => g 5 (60 * t + x9)) (g 4 t) (zD g)).1) 0)) (by rw [if_pos rfl]) ?_
      refine v_loop4 (fun (E : Int → Int) (x : Int) (w : Int) (n : Int) => n.toNat) (fun (E : Int → Int) (x : Int) (w : Int) (n : Int) => 0 ≤ x ∧ x ≤ 60 ∧ (w = 0 ∨ w = 1) ∧ 0 ≤ E 0 ∧ E 0 ≤ 6 ∧ (w = 1 → E 0 + n = 8) ∧ rs (fun x9 => g 5 (60 * t + x9)) (g 4 t) n.toNat x w E = (qB (fun x9 => g 5 (60 * t + x9)) (g 4 t) (zD g))) (fun (E : Int → Int) (x : Int) (w : Int) (n : Int) => [(2, .int (iI (j))), (0, .ref (a (0))), (1, .int (iI (t)))]) (fun (E : Int → Int) (x : Int) (w : Int) (n : Int) => (pS g E x w)) ?_ ((((qM (fun x9 => g 5 (60 * t + x9)) (g 4 t) (zD g)).2.2))) ((qM (fun x9 => g 5 (60 * t + x9)) (g 4 t) (zD g)).1) 0 0 ⟨by omega, by omega, Or.inl rfl, by omega, by omega, by omega, by rw [rs_0 rfl, qB_y (by first | exact f48 | (rw [qM_y f36]; exact f36))]⟩
      intro E x w n hI70 ih70
      try dsimp only at ih70 ⊢
      refine v_aload_n C 1 dX5_reads_70 rfl ?_
      refine v_getf C (by omega) (by omega) ct_mod rfl 16 (by decide) wf90 hinX5 rfl dX5_reads_71 ?_
      refine v_st (st' := [.int (iI (w))]) (by rw [pS_w]) ?_
      refine v_if_eq (tgt := 103) C dX5_reads_74 (by decide) (by omega) (fun c74 => ?_) (fun c74 => ?_)
      · skip
        refine v_aload_n C 1 dX5_reads_103 rfl ?_
        refine v_getf C (by omega) (by omega) ct_mod rfl 16 (by decide) wf90 hinX5 rfl dX5_reads_104 ?_
        refine v_st (st' := [.int (iI (w))]) (by rw [pS_w]) ?_
        refine v_if_eq (tgt := 115) C dX5_reads_107 (by decide) (by omega) (fun c107 => ?_) (fun c107 => ?_)
        · skip
          refine v_aload_n C 1 dX5_reads_115 rfl ?_
          refine v_getf C (by omega) (by omega) ct_mod rfl 15 (by decide) wf84 hinX5 rfl dX5_reads_116 ?_
          refine v_st (st' := [.int (iI (x))]) (by rw [pS_p]) ?_
          exact v_ret_i C rfl dX5_reads_119 ⟨(by rw [← hI70.2.2.2.2.2.2]; first | (rw [rs_0 (by omega)]; rfl) | (rw [rs_1 (by omega) (by omega)]; rfl)), (by rw [← hI70.2.2.2.2.2.2]; first | (rw [rs_0 (by omega), show w = 0 by omega]) | (rw [rs_1 (by omega) (by omega), show w = 1 by omega]))⟩
        · skip
          refine v_bipush C dX5_reads_110 (by decide) ?_
          refine v_goto (tgt := 119) C dX5_reads_112 (by decide) ?_
          exact v_ret_i C rfl dX5_reads_119 ⟨(by rw [← hI70.2.2.2.2.2.2]; first | (rw [rs_0 (by omega)]; rfl) | (rw [rs_1 (by omega) (by omega)]; rfl)), (by rw [← hI70.2.2.2.2.2.2]; first | (rw [rs_0 (by omega), show w = 0 by omega]) | (rw [rs_1 (by omega) (by omega), show w = 1 by omega]))⟩
      · skip
        refine v_aload_n C 1 dX5_reads_77 rfl ?_
        refine v_getf C (by omega) (by omega) ct_mod rfl 15 (by decide) wf84 hinX5 rfl dX5_reads_78 ?_
        refine v_st (st' := [.int (iI (x))]) (by rw [pS_p]) ?_
        refine v_aload_n C 1 dX5_reads_81 rfl ?_
        refine v_getf C (by omega) (by omega) ct_mod rfl 3 (by decide) wf19 hinX5 rfl dX5_reads_82 ?_
        refine v_iload_n C 2 dX5_reads_85 rfl ?_
        refine v_iaload C (by omega) (by omega) ct_mlengths (by omega) (by omega) (by decide) dX5_reads_86 ?_
        refine v_st (st' := [.int (iI (g (4) (t))), .int (iI (x))]) (by rw [pS_o (by decide) (by decide)]) ?_
        refine v_icmp_ge (tgt := 103) C dX5_reads_87 (by decide) (by omega) (by omega) (fun c87 => ?_) (fun c87 => ?_)
        · skip
          refine v_aload_n C 1 dX5_reads_103 rfl ?_
          refine v_getf C (by omega) (by omega) ct_mod rfl 16 (by decide) wf90 hinX5 rfl dX5_reads_104 ?_
          refine v_st (st' := [.int (iI (w))]) (by rw [pS_w]) ?_
          refine v_if_eq (tgt := 115) C dX5_reads_107 (by decide) (by omega) (fun c107 => ?_) (fun c107 => ?_)
          · skip
            refine v_aload_n C 1 dX5_reads_115 rfl ?_
            refine v_getf C (by omega) (by omega) ct_mod rfl 15 (by decide) wf84 hinX5 rfl dX5_reads_116 ?_
            refine v_st (st' := [.int (iI (x))]) (by rw [pS_p]) ?_
            exact v_ret_i C rfl dX5_reads_119 ⟨(by rw [← hI70.2.2.2.2.2.2]; first | (rw [rs_0 (by omega)]; rfl) | (rw [rs_1 (by omega) (by omega)]; rfl)), (by rw [← hI70.2.2.2.2.2.2]; first | (rw [rs_0 (by omega), show w = 0 by omega]) | (rw [rs_1 (by omega) (by omega), show w = 1 by omega]))⟩
          · skip
            refine v_bipush C dX5_reads_110 (by decide) ?_
            refine v_goto (tgt := 119) C dX5_reads_112 (by decide) ?_
            exact v_ret_i C rfl dX5_reads_119 ⟨(by rw [← hI70.2.2.2.2.2.2]; first | (rw [rs_0 (by omega)]; rfl) | (rw [rs_1 (by omega) (by omega)]; rfl)), (by rw [← hI70.2.2.2.2.2.2]; first | (rw [rs_0 (by omega), show w = 0 by omega]) | (rw [rs_1 (by omega) (by omega), show w = 1 by omega]))⟩
        · skip
          refine v_g (g' := (pS g E x 1)) (by rw [show w = 1 by omega]) ?_
          refine v_aload_n C 1 dX5_reads_90 rfl ?_
          refine v_iload_n C 2 dX5_reads_91 rfl ?_
          refine v_cV_v C (As := [.int (iI (t))]) (rest := []) (c_X5_readsBeast l D yc t1 t2 a A g t E x (by omega) (by omega) HB (by omega) (by omega)) (cwV 1 C.hts gX5_reads_X5_readsBeast rfl rfl rfl (by decide +kernel) ⟨by decide, by decide⟩) (fun H hP => va_recv C.hK hP (ci := 5) (q0 := (0 : Int).toNat) rfl (wo_is (by omega) (by omega) ct_mod)) rfl rfl (Nat.le_of_ble_eq_true rfl) dX5_reads_92 ?_
          intro g9 h9
          rw [h9]
          clear h9 g9
          try dsimp only
          have hbx := bP_r (B := (fun x9 => g 5 (60 * t + x9))) (L := (g 4 t)) (D := E) (p := x) (by omega) hL.2 (by omega)
          have hbw2 := bW_01 (fun x9 => g 5 (60 * t + x9)) (g 4 t) E x
          have hb62 := bW_6 (B := (fun x9 => g 5 (60 * t + x9))) (L := (g 4 t)) (D := E) (p := x)
          have hs3 := sk_r (fun x9 => g 5 (60 * t + x9)) (L := (g 4 t)) (p := bP (fun x9 => g 5 (60 * t + x9)) (g 4 t) E x) hL.2 (by omega)
          refine v_aload_n C 1 dX5_reads_95 rfl ?_
          refine v_iload_n C 2 dX5_reads_96 rfl ?_
          refine v_cV_v C (As := [.int (iI (t))]) (rest := []) (c_X5_skipsIf l D yc t1 t2 a A g t (bD (fun x9 => g 5 (60 * t + x9)) (g 4 t) E x) (bP (fun x9 => g 5 (60 * t + x9)) (g 4 t) E x) (bW (fun x9 => g 5 (60 * t + x9)) (g 4 t) E x) (by omega) (by omega) HB (by omega) (by omega)) (cwV 1 C.hts gX5_reads_X5_skipsIf rfl rfl rfl (by decide +kernel) ⟨by decide, by decide⟩) (fun H hP => va_recv C.hK hP (ci := 5) (q0 := (0 : Int).toNat) rfl (wo_is (by omega) (by omega) ct_mod)) rfl rfl (Nat.le_of_ble_eq_true rfl) dX5_reads_97 ?_
          intro g9 h9
          rw [h9]
          clear h9 g9
          try dsimp only
          refine v_goto (tgt := 70) C dX5_reads_100 (by decide) ?_
          exact ih70 ((bD (fun x9 => g 5 (60 * t + x9)) (g 4 t) E x)) (if (bW (fun x9 => g 5 (60 * t + x9)) (g 4 t) E x) = 0 then (bP (fun x9 => g 5 (60 * t + x9)) (g 4 t) E x) else sk (fun x9 => g 5 (60 * t + x9)) (g 4 t) (bP (fun x9 => g 5 (60 * t + x9)) (g 4 t) E x)) ((bW (fun x9 => g 5 (60 * t + x9)) (g 4 t) E x)) (n - 1) ⟨by split <;> omega, by split <;> omega, bW_01 _ _ _ _, by rw [bD_0]; omega, by rw [bD_0]; omega, by rw [bD_0]; omega, by rw [← hI70.2.2.2.2.2.2]; exact (rs_s c74 c87 (by omega)).symm⟩ (by omega)
    · skip
      refine v_g (g' := (pS g ((qT (fun x9 => g 5 (60 * t + x9)) (g 4 t) (zD g)).2.2) ((qT (fun x9 => g 5 (60 * t + x9)) (g 4 t) (zD g)).1) 1)) (congrArg (pS g (qT (fun x9 => g 5 (60 * t + x9)) (g 4 t) (zD g)).2.2 (qT (fun x9 => g 5 (60 * t + x9)) (g 4 t) (zD g)).1) (show (qT (fun x9 => g 5 (60 * t + x9)) (g 4 t) (zD g)).2.1 = 1 by have := qT_01 (fun x9 => g 5 (60 * t + x9)) (g 4 t) (zD g); omega)) ?_
      refine v_aload_n C 1 dX5_reads_36 rfl ?_
      refine v_getf C (by omega) (by omega) ct_mod rfl 16 (by decide) wf90 hinX5 rfl dX5_reads_37 ?_
      refine v_st (st' := [.int (iI (1))]) (by rw [pS_w]) ?_
      refine v_if_eq (tgt := 48) C dX5_reads_40 (by decide) (by decide) (fun h9 => absurd h9 (by decide)) (fun _ => ?_)
      refine v_aload_n C 1 dX5_reads_43 rfl ?_
      refine v_iload_n C 2 dX5_reads_44 rfl ?_
      refine v_cV_v C (As := [.int (iI (t))]) (rest := []) (c_X5_readsMilk l D yc t1 t2 a A g t ((qT (fun x9 => g 5 (60 * t + x9)) (g 4 t) (zD g)).2.2) ((qT (fun x9 => g 5 (60 * t + x9)) (g 4 t) (zD g)).1) (by omega) (by omega) HB (by omega) hT2) (cwV 1 C.hts gX5_reads_X5_readsMilk rfl rfl rfl (by decide +kernel) ⟨by decide, by decide⟩) (fun H hP => va_recv C.hK hP (ci := 5) (q0 := (0 : Int).toNat) rfl (wo_is (by omega) (by omega) ct_mod)) rfl rfl (Nat.le_of_ble_eq_true rfl) dX5_reads_45 ?_
      intro g9 h9
      rw [h9]
      clear h9 g9
      try dsimp only
      rcases Classical.em ((qM (fun x9 => g 5 (60 * t + x9)) (g 4 t) (zD g)).2.1 = 0) with f48 | f48
      · skip
        refine v_g (g' := (pS g ((qM (fun x9 => g 5 (60 * t + x9)) (g 4 t) (zD g)).2.2) ((qM (fun x9 => g 5 (60 * t + x9)) (g 4 t) (zD g)).1) 0)) (by rw [← f48, qM_n f36]) ?_
        refine v_aload_n C 1 dX5_reads_48 rfl ?_
        refine v_iload_n C 2 dX5_reads_49 rfl ?_
        refine v_cV_v C (As := [.int (iI (t))]) (rest := []) (c_X5_skipsIf l D yc t1 t2 a A g t ((qM (fun x9 => g 5 (60 * t + x9)) (g 4 t) (zD g)).2.2) ((qM (fun x9 => g 5 (60 * t + x9)) (g 4 t) (zD g)).1) 0 (by omega) (by omega) HB (by omega) (by omega)) (cwV 1 C.hts gX5_reads_X5_skipsIf rfl rfl rfl (by decide +kernel) ⟨by decide, by decide⟩) (fun H hP => va_recv C.hK hP (ci := 5) (q0 := (0 : Int).toNat) rfl (wo_is (by omega) (by omega) ct_mod)) rfl rfl (Nat.le_of_ble_eq_true rfl) dX5_reads_50 ?_
        intro g9 h9
        rw [h9]
        clear h9 g9
        try dsimp only
        refine v_g (g' := (pS g (((qM (fun x9 => g 5 (60 * t + x9)) (g 4 t) (zD g)).2.2)) ((qM (fun x9 => g 5 (60 * t + x9)) (g 4 t) (zD g)).1) 0)) (by rw [if_pos rfl]) ?_
        refine v_aload_n C 1 dX5_reads_53 rfl ?_
        refine v_getf C (by omega) (by omega) ct_mod rfl 16 (by decide) wf90 hinX5 rfl dX5_reads_54 ?_
        refine v_st (st' := [.int (iI (0))]) (by rw [pS_w]) ?_
        refine v_if_eq (tgt := 65) C dX5_reads_57 (by decide) (by decide) (fun _ => ?_) (fun h9 => absurd h9 (by decide))
        have hbw := bW_01 (fun x9 => g 5 (60 * t + x9)) (g 4 t) (qM (fun x9 => g 5 (60 * t + x9)) (g 4 t) (zD g)).2.2 (sk (fun x9 => g 5 (60 * t + x9)) (g 4 t) ((qM (fun x9 => g 5 (60 * t + x9)) (g 4 t) (zD g)).1))
        have hb6 := bW_6 (B := (fun x9 => g 5 (60 * t + x9))) (L := (g 4 t)) (D := (qM (fun x9 => g 5 (60 * t + x9)) (g 4 t) (zD g)).2.2) (p := sk (fun x9 => g 5 (60 * t + x9)) (g 4 t) ((qM (fun x9 => g 5 (60 * t + x9)) (g 4 t) (zD g)).1))
        have hs2 := sk_r (fun x9 => g 5 (60 * t + x9)) (L := (g 4 t)) (p := bP (fun x9 => g 5 (60 * t + x9)) (g 4 t) (qM (fun x9 => g 5 (60 * t + x9)) (g 4 t) (zD g)).2.2 (sk (fun x9 => g 5 (60 * t + x9)) (g 4 t) ((qM (fun x9 => g 5 (60 * t + x9)) (g 4 t) (zD g)).1))) hL.2 (by omega)
        refine v_aload_n C 1 dX5_reads_65 rfl ?_
        refine v_iload_n C 2 dX5_reads_66 rfl ?_
        refine v_cV_v C (As := [.int (iI (t))]) (rest := []) (c_X5_skipsIf l D yc t1 t2 a A g t (((qM (fun x9 => g 5 (60 * t + x9)) (g 4 t) (zD g)).2.2)) ((qM (fun x9 => g 5 (60 * t + x9)) (g 4 t) (zD g)).1) 0 (by omega) (by omega) HB (by omega) (by omega)) (cwV 1 C.hts gX5_reads_X5_skipsIf rfl rfl rfl (by decide +kernel) ⟨by decide, by decide⟩) (fun H hP => va_recv C.hK hP (ci := 5) (q0 := (0 : Int).toNat) rfl (wo_is (by omega) (by omega) ct_mod)) rfl rfl (Nat.le_of_ble_eq_true rfl) dX5_reads_67 ?_
        intro g9 h9
        rw [h9]
        clear h9 g9
        try dsimp only
        refine v_g (g' := (pS g ((((qM (fun x9 => g 5 (60 * t + x9)) (g 4 t) (zD g)).2.2))) ((qM (fun x9 => g 5 (60 * t + x9)) (g 4 t) (zD g)).1) 0)) (by rw [if_pos rfl]) ?_
        refine v_loop4 (fun (E : Int → Int) (x : Int) (w : Int) (n : Int) => n.toNat) (fun (E : Int → Int) (x : Int) (w : Int) (n : Int) => 0 ≤ x ∧ x ≤ 60 ∧ (w = 0 ∨ w = 1) ∧ 0 ≤ E 0 ∧ E 0 ≤ 6 ∧ (w = 1 → E 0 + n = 8) ∧ rs (fun x9 => g 5 (60 * t + x9)) (g 4 t) n.toNat x w E = (qB (fun x9 => g 5 (60 * t + x9)) (g 4 t) (zD g))) (fun (E : Int → Int) (x : Int) (w : Int) (n : Int) => [(2, .int (iI (j))), (0, .ref (a (0))), (1, .int (iI (t)))]) (fun (E : Int → Int) (x : Int) (w : Int) (n : Int) => (pS g E x w)) ?_ ((((qM (fun x9 => g 5 (60 * t + x9)) (g 4 t) (zD g)).2.2))) ((qM (fun x9 => g 5 (60 * t + x9)) (g 4 t) (zD g)).1) 0 0 ⟨by omega, by omega, Or.inl rfl, by omega, by omega, by omega, by rw [rs_0 rfl, qB_y (by first | exact f48 | (rw [qM_y f36]; exact f36))]⟩
        intro E x w n hI70 ih70
        try dsimp only at ih70 ⊢
        refine v_aload_n C 1 dX5_reads_70 rfl ?_
        refine v_getf C (by omega) (by omega) ct_mod rfl 16 (by decide) wf90 hinX5 rfl dX5_reads_71 ?_
        refine v_st (st' := [.int (iI (w))]) (by rw [pS_w]) ?_
        refine v_if_eq (tgt := 103) C dX5_reads_74 (by decide) (by omega) (fun c74 => ?_) (fun c74 => ?_)
        · skip
          refine v_aload_n C 1 dX5_reads_103 rfl ?_
          refine v_getf C (by omega) (by omega) ct_mod rfl 16 (by decide) wf90 hinX5 rfl dX5_reads_104 ?_
          refine v_st (st' := [.int (iI (w))]) (by rw [pS_w]) ?_
          refine v_if_eq (tgt := 115) C dX5_reads_107 (by decide) (by omega) (fun c107 => ?_) (fun c107 => ?_)
          · skip
            refine v_aload_n C 1 dX5_reads_115 rfl ?_
            refine v_getf C (by omega) (by omega) ct_mod rfl 15 (by decide) wf84 hinX5 rfl dX5_reads_116 ?_
            refine v_st (st' := [.int (iI (x))]) (by rw [pS_p]) ?_
            exact v_ret_i C rfl dX5_reads_119 ⟨(by rw [← hI70.2.2.2.2.2.2]; first | (rw [rs_0 (by omega)]; rfl) | (rw [rs_1 (by omega) (by omega)]; rfl)), (by rw [← hI70.2.2.2.2.2.2]; first | (rw [rs_0 (by omega), show w = 0 by omega]) | (rw [rs_1 (by omega) (by omega), show w = 1 by omega]))⟩
          · skip
            refine v_bipush C dX5_reads_110 (by decide) ?_
            refine v_goto (tgt := 119) C dX5_reads_112 (by decide) ?_
            exact v_ret_i C rfl dX5_reads_119 ⟨(by rw [← hI70.2.2.2.2.2.2]; first | (rw [rs_0 (by omega)]; rfl) | (rw [rs_1 (by omega) (by omega)]; rfl)), (by rw [← hI70.2.2.2.2.2.2]; first | (rw [rs_0 (by omega), show w = 0 by omega]) | (rw [rs_1 (by omega) (by omega), show w = 1 by omega]))⟩
        · skip
          refine v_aload_n C 1 dX5_reads_77 rfl ?_
          refine v_getf C (by omega) (by omega) ct_mod rfl 15 (by decide) wf84 hinX5 rfl dX5_reads_78 ?_
          refine v_st (st' := [.int (iI (x))]) (by rw [pS_p]) ?_
          refine v_aload_n C 1 dX5_reads_81 rfl ?_
          refine v_getf C (by omega) (by omega) ct_mod rfl 3 (by decide) wf19 hinX5 rfl dX5_reads_82 ?_
          refine v_iload_n C 2 dX5_reads_85 rfl ?_
          refine v_iaload C (by omega) (by omega) ct_mlengths (by omega) (by omega) (by decide) dX5_reads_86 ?_
          refine v_st (st' := [.int (iI (g (4) (t))), .int (iI (x))]) (by rw [pS_o (by decide) (by decide)]) ?_
          refine v_icmp_ge (tgt := 103) C dX5_reads_87 (by decide) (by omega) (by omega) (fun c87 => ?_) (fun c87 => ?_)
          · skip
            refine v_aload_n C 1 dX5_reads_103 rfl ?_
            refine v_getf C (by omega) (by omega) ct_mod rfl 16 (by decide) wf90 hinX5 rfl dX5_reads_104 ?_
            refine v_st (st' := [.int (iI (w))]) (by rw [pS_w]) ?_
            refine v_if_eq (tgt := 115) C dX5_reads_107 (by decide) (by omega) (fun c107 => ?_) (fun c107 => ?_)
            · skip
              refine v_aload_n C 1 dX5_reads_115 rfl ?_
              refine v_getf C (by omega) (by omega) ct_mod rfl 15 (by decide) wf84 hinX5 rfl dX5_reads_116 ?_
              refine v_st (st' := [.int (iI (x))]) (by rw [pS_p]) ?_
              exact v_ret_i C rfl dX5_reads_119 ⟨(by rw [← hI70.2.2.2.2.2.2]; first | (rw [rs_0 (by omega)]; rfl) | (rw [rs_1 (by omega) (by omega)]; rfl)), (by rw [← hI70.2.2.2.2.2.2]; first | (rw [rs_0 (by omega), show w = 0 by omega]) | (rw [rs_1 (by omega) (by omega), show w = 1 by omega]))⟩
            · skip
              refine v_bipush C dX5_reads_110 (by decide) ?_
              refine v_goto (tgt := 119) C dX5_reads_112 (by decide) ?_
              exact v_ret_i C rfl dX5_reads_119 ⟨(by rw [← hI70.2.2.2.2.2.2]; first | (rw [rs_0 (by omega)]; rfl) | (rw [rs_1 (by omega) (by omega)]; rfl)), (by rw [← hI70.2.2.2.2.2.2]; first | (rw [rs_0 (by omega), show w = 0 by omega]) | (rw [rs_1 (by omega) (by omega), show w = 1 by omega]))⟩
          · skip
            refine v_g (g' := (pS g E x 1)) (by rw [show w = 1 by omega]) ?_
            refine v_aload_n C 1 dX5_reads_90 rfl ?_
            refine v_iload_n C 2 dX5_reads_91 rfl ?_
            refine v_cV_v C (As := [.int (iI (t))]) (rest := []) (c_X5_readsBeast l D yc t1 t2 a A g t E x (by omega) (by omega) HB (by omega) (by omega)) (cwV 1 C.hts gX5_reads_X5_readsBeast rfl rfl rfl (by decide +kernel) ⟨by decide, by decide⟩) (fun H hP => va_recv C.hK hP (ci := 5) (q0 := (0 : Int).toNat) rfl (wo_is (by omega) (by omega) ct_mod)) rfl rfl (Nat.le_of_ble_eq_true rfl) dX5_reads_92 ?_
            intro g9 h9
            rw [h9]
            clear h9 g9
            try dsimp only
            have hbx := bP_r (B := (fun x9 => g 5 (60 * t + x9))) (L := (g 4 t)) (D := E) (p := x) (by omega) hL.2 (by omega)
            have hbw2 := bW_01 (fun x9 => g 5 (60 * t + x9)) (g 4 t) E x
            have hb62 := bW_6 (B := (fun x9 => g 5 (60 * t + x9))) (L := (g 4 t)) (D := E) (p := x)
            have hs3 := sk_r (fun x9 => g 5 (60 * t + x9)) (L := (g 4 t)) (p := bP (fun x9 => g 5 (60 * t + x9)) (g 4 t) E x) hL.2 (by omega)
            refine v_aload_n C 1 dX5_reads_95 rfl ?_
            refine v_iload_n C 2 dX5_reads_96 rfl ?_
            refine v_cV_v C (As := [.int (iI (t))]) (rest := []) (c_X5_skipsIf l D yc t1 t2 a A g t (bD (fun x9 => g 5 (60 * t + x9)) (g 4 t) E x) (bP (fun x9 => g 5 (60 * t + x9)) (g 4 t) E x) (bW (fun x9 => g 5 (60 * t + x9)) (g 4 t) E x) (by omega) (by omega) HB (by omega) (by omega)) (cwV 1 C.hts gX5_reads_X5_skipsIf rfl rfl rfl (by decide +kernel) ⟨by decide, by decide⟩) (fun H hP => va_recv C.hK hP (ci := 5) (q0 := (0 : Int).toNat) rfl (wo_is (by omega) (by omega) ct_mod)) rfl rfl (Nat.le_of_ble_eq_true rfl) dX5_reads_97 ?_
            intro g9 h9
            rw [h9]
            clear h9 g9
            try dsimp only
            refine v_goto (tgt := 70) C dX5_reads_100 (by decide) ?_
            exact ih70 ((bD (fun x9 => g 5 (60 * t + x9)) (g 4 t) E x)) (if (bW (fun x9 => g 5 (60 * t + x9)) (g 4 t) E x) = 0 then (bP (fun x9 => g 5 (60 * t + x9)) (g 4 t) E x) else sk (fun x9 => g 5 (60 * t + x9)) (g 4 t) (bP (fun x9 => g 5 (60 * t + x9)) (g 4 t) E x)) ((bW (fun x9 => g 5 (60 * t + x9)) (g 4 t) E x)) (n - 1) ⟨by split <;> omega, by split <;> omega, bW_01 _ _ _ _, by rw [bD_0]; omega, by rw [bD_0]; omega, by rw [bD_0]; omega, by rw [← hI70.2.2.2.2.2.2]; exact (rs_s c74 c87 (by omega)).symm⟩ (by omega)
      · skip
        refine v_g (g' := (pS g ((qM (fun x9 => g 5 (60 * t + x9)) (g 4 t) (zD g)).2.2) ((qM (fun x9 => g 5 (60 * t + x9)) (g 4 t) (zD g)).1) 1)) (by rw [show (1 : Int) = (qM (fun x9 => g 5 (60 * t + x9)) (g 4 t) (zD g)).2.1 by have := qM_01 (fun x9 => g 5 (60 * t + x9)) (g 4 t) (zD g); omega, qM_n f36]) ?_
        refine v_aload_n C 1 dX5_reads_48 rfl ?_
        refine v_iload_n C 2 dX5_reads_49 rfl ?_
        refine v_cV_v C (As := [.int (iI (t))]) (rest := []) (c_X5_skipsIf l D yc t1 t2 a A g t ((qM (fun x9 => g 5 (60 * t + x9)) (g 4 t) (zD g)).2.2) ((qM (fun x9 => g 5 (60 * t + x9)) (g 4 t) (zD g)).1) 1 (by omega) (by omega) HB (by omega) (by omega)) (cwV 1 C.hts gX5_reads_X5_skipsIf rfl rfl rfl (by decide +kernel) ⟨by decide, by decide⟩) (fun H hP => va_recv C.hK hP (ci := 5) (q0 := (0 : Int).toNat) rfl (wo_is (by omega) (by omega) ct_mod)) rfl rfl (Nat.le_of_ble_eq_true rfl) dX5_reads_50 ?_
        intro g9 h9
        rw [h9]
        clear h9 g9
        try dsimp only
        refine v_g (g' := (pS g (((qM (fun x9 => g 5 (60 * t + x9)) (g 4 t) (zD g)).2.2)) (sk (fun x9 => g 5 (60 * t + x9)) (g 4 t) ((qM (fun x9 => g 5 (60 * t + x9)) (g 4 t) (zD g)).1)) 1)) (by rw [if_neg (by decide)]) ?_
        refine v_aload_n C 1 dX5_reads_53 rfl ?_
        refine v_getf C (by omega) (by omega) ct_mod rfl 16 (by decide) wf90 hinX5 rfl dX5_reads_54 ?_
        refine v_st (st' := [.int (iI (1))]) (by rw [pS_w]) ?_
        refine v_if_eq (tgt := 65) C dX5_reads_57 (by decide) (by decide) (fun h9 => absurd h9 (by decide)) (fun _ => ?_)
        refine v_aload_n C 1 dX5_reads_60 rfl ?_
        refine v_iload_n C 2 dX5_reads_61 rfl ?_
        refine v_cV_v C (As := [.int (iI (t))]) (rest := []) (c_X5_readsBeast l D yc t1 t2 a A g t (((qM (fun x9 => g 5 (60 * t + x9)) (g 4 t) (zD g)).2.2)) (sk (fun x9 => g 5 (60 * t + x9)) (g 4 t) ((qM (fun x9 => g 5 (60 * t + x9)) (g 4 t) (zD g)).1)) (by omega) (by omega) HB (by omega) (by omega)) (cwV 1 C.hts gX5_reads_X5_readsBeast rfl rfl rfl (by decide +kernel) ⟨by decide, by decide⟩) (fun H hP => va_recv C.hK hP (ci := 5) (q0 := (0 : Int).toNat) rfl (wo_is (by omega) (by omega) ct_mod)) rfl rfl (Nat.le_of_ble_eq_true rfl) dX5_reads_62 ?_
        intro g9 h9
        rw [h9]
        clear h9 g9
        try dsimp only
        have hbw := bW_01 (fun x9 => g 5 (60 * t + x9)) (g 4 t) (qM (fun x9 => g 5 (60 * t + x9)) (g 4 t) (zD g)).2.2 (sk (fun x9 => g 5 (60 * t + x9)) (g 4 t) ((qM (fun x9 => g 5 (60 * t + x9)) (g 4 t) (zD g)).1))
        have hb6 := bW_6 (B := (fun x9 => g 5 (60 * t + x9))) (L := (g 4 t)) (D := (qM (fun x9 => g 5 (60 * t + x9)) (g 4 t) (zD g)).2.2) (p := sk (fun x9 => g 5 (60 * t + x9)) (g 4 t) ((qM (fun x9 => g 5 (60 * t + x9)) (g 4 t) (zD g)).1))
        have hs2 := sk_r (fun x9 => g 5 (60 * t + x9)) (L := (g 4 t)) (p := bP (fun x9 => g 5 (60 * t + x9)) (g 4 t) (qM (fun x9 => g 5 (60 * t + x9)) (g 4 t) (zD g)).2.2 (sk (fun x9 => g 5 (60 * t + x9)) (g 4 t) ((qM (fun x9 => g 5 (60 * t + x9)) (g 4 t) (zD g)).1))) hL.2 (by omega)
        refine v_aload_n C 1 dX5_reads_65 rfl ?_
        refine v_iload_n C 2 dX5_reads_66 rfl ?_
        refine v_cV_v C (As := [.int (iI (t))]) (rest := []) (c_X5_skipsIf l D yc t1 t2 a A g t (bD (fun x9 => g 5 (60 * t + x9)) (g 4 t) (((qM (fun x9 => g 5 (60 * t + x9)) (g 4 t) (zD g)).2.2)) (sk (fun x9 => g 5 (60 * t + x9)) (g 4 t) ((qM (fun x9 => g 5 (60 * t + x9)) (g 4 t) (zD g)).1))) (bP (fun x9 => g 5 (60 * t + x9)) (g 4 t) (((qM (fun x9 => g 5 (60 * t + x9)) (g 4 t) (zD g)).2.2)) (sk (fun x9 => g 5 (60 * t + x9)) (g 4 t) ((qM (fun x9 => g 5 (60 * t + x9)) (g 4 t) (zD g)).1))) (bW (fun x9 => g 5 (60 * t + x9)) (g 4 t) (((qM (fun x9 => g 5 (60 * t + x9)) (g 4 t) (zD g)).2.2)) (sk (fun x9 => g 5 (60 * t + x9)) (g 4 t) ((qM (fun x9 => g 5 (60 * t + x9)) (g 4 t) (zD g)).1))) (by omega) (by omega) HB (by omega) (by omega)) (cwV 1 C.hts gX5_reads_X5_skipsIf rfl rfl rfl (by decide +kernel) ⟨by decide, by decide⟩) (fun H hP => va_recv C.hK hP (ci := 5) (q0 := (0 : Int).toNat) rfl (wo_is (by omega) (by omega) ct_mod)) rfl rfl (Nat.le_of_ble_eq_true rfl) dX5_reads_67 ?_
        intro g9 h9
        rw [h9]
        clear h9 g9
        try dsimp only
        refine v_loop4 (fun (E : Int → Int) (x : Int) (w : Int) (n : Int) => n.toNat) (fun (E : Int → Int) (x : Int) (w : Int) (n : Int) => 0 ≤ x ∧ x ≤ 60 ∧ (w = 0 ∨ w = 1) ∧ 0 ≤ E 0 ∧ E 0 ≤ 6 ∧ (w = 1 → E 0 + n = 8) ∧ rs (fun x9 => g 5 (60 * t + x9)) (g 4 t) n.toNat x w E = (qB (fun x9 => g 5 (60 * t + x9)) (g 4 t) (zD g))) (fun (E : Int → Int) (x : Int) (w : Int) (n : Int) => [(2, .int (iI (j))), (0, .ref (a (0))), (1, .int (iI (t)))]) (fun (E : Int → Int) (x : Int) (w : Int) (n : Int) => (pS g E x w)) ?_ ((bD (fun x9 => g 5 (60 * t + x9)) (g 4 t) (((qM (fun x9 => g 5 (60 * t + x9)) (g 4 t) (zD g)).2.2)) (sk (fun x9 => g 5 (60 * t + x9)) (g 4 t) ((qM (fun x9 => g 5 (60 * t + x9)) (g 4 t) (zD g)).1)))) (if (bW (fun x9 => g 5 (60 * t + x9)) (g 4 t) (((qM (fun x9 => g 5 (60 * t + x9)) (g 4 t) (zD g)).2.2)) (sk (fun x9 => g 5 (60 * t + x9)) (g 4 t) ((qM (fun x9 => g 5 (60 * t + x9)) (g 4 t) (zD g)).1))) = 0 then (bP (fun x9 => g 5 (60 * t + x9)) (g 4 t) (((qM (fun x9 => g 5 (60 * t + x9)) (g 4 t) (zD g)).2.2)) (sk (fun x9 => g 5 (60 * t + x9)) (g 4 t) ((qM (fun x9 => g 5 (60 * t + x9)) (g 4 t) (zD g)).1))) else sk (fun x9 => g 5 (60 * t + x9)) (g 4 t) (bP (fun x9 => g 5 (60 * t + x9)) (g 4 t) (((qM (fun x9 => g 5 (60 * t + x9)) (g 4 t) (zD g)).2.2)) (sk (fun x9 => g 5 (60 * t + x9)) (g 4 t) ((qM (fun x9 => g 5 (60 * t + x9)) (g 4 t) (zD g)).1)))) ((bW (fun x9 => g 5 (60 * t + x9)) (g 4 t) (((qM (fun x9 => g 5 (60 * t + x9)) (g 4 t) (zD g)).2.2)) (sk (fun x9 => g 5 (60 * t + x9)) (g 4 t) ((qM (fun x9 => g 5 (60 * t + x9)) (g 4 t) (zD g)).1)))) 7 ⟨by split <;> omega, by split <;> omega, bW_01 _ _ _ _, by rw [bD_0]; omega, by rw [bD_0]; omega, by rw [bD_0]; omega, (qB_n f48).symm⟩
        intro E x w n hI70 ih70
        try dsimp only at ih70 ⊢
        refine v_aload_n C 1 dX5_reads_70 rfl ?_
        refine v_getf C (by omega) (by omega) ct_mod rfl 16 (by decide) wf90 hinX5 rfl dX5_reads_71 ?_
        refine v_st (st' := [.int (iI (w))]) (by rw [pS_w]) ?_
        refine v_if_eq (tgt := 103) C dX5_reads_74 (by decide) (by omega) (fun c74 => ?_) (fun c74 => ?_)
        · skip
          refine v_aload_n C 1 dX5_reads_103 rfl ?_
          refine v_getf C (by omega) (by omega) ct_mod rfl 16 (by decide) wf90 hinX5 rfl dX5_reads_104 ?_
          refine v_st (st' := [.int (iI (w))]) (by rw [pS_w]) ?_
          refine v_if_eq (tgt := 115) C dX5_reads_107 (by decide) (by omega) (fun c107 => ?_) (fun c107 => ?_)
          · skip
            refine v_aload_n C 1 dX5_reads_115 rfl ?_
            refine v_getf C (by omega) (by omega) ct_mod rfl 15 (by decide) wf84 hinX5 rfl dX5_reads_116 ?_
            refine v_st (st' := [.int (iI (x))]) (by rw [pS_p]) ?_
            exact v_ret_i C rfl dX5_reads_119 ⟨(by rw [← hI70.2.2.2.2.2.2]; first | (rw [rs_0 (by omega)]; rfl) | (rw [rs_1 (by omega) (by omega)]; rfl)), (by rw [← hI70.2.2.2.2.2.2]; first | (rw [rs_0 (by omega), show w = 0 by omega]) | (rw [rs_1 (by omega) (by omega), show w = 1 by omega]))⟩
          · skip
            refine v_bipush C dX5_reads_110 (by decide) ?_
            refine v_goto (tgt := 119) C dX5_reads_112 (by decide) ?_
            exact v_ret_i C rfl dX5_reads_119 ⟨(by rw [← hI70.2.2.2.2.2.2]; first | (rw [rs_0 (by omega)]; rfl) | (rw [rs_1 (by omega) (by omega)]; rfl)), (by rw [← hI70.2.2.2.2.2.2]; first | (rw [rs_0 (by omega), show w = 0 by omega]) | (rw [rs_1 (by omega) (by omega), show w = 1 by omega]))⟩
        · skip
          refine v_aload_n C 1 dX5_reads_77 rfl ?_
          refine v_getf C (by omega) (by omega) ct_mod rfl 15 (by decide) wf84 hinX5 rfl dX5_reads_78 ?_
          refine v_st (st' := [.int (iI (x))]) (by rw [pS_p]) ?_
          refine v_aload_n C 1 dX5_reads_81 rfl ?_
          refine v_getf C (by omega) (by omega) ct_mod rfl 3 (by decide) wf19 hinX5 rfl dX5_reads_82 ?_
          refine v_iload_n C 2 dX5_reads_85 rfl ?_
          refine v_iaload C (by omega) (by omega) ct_mlengths (by omega) (by omega) (by decide) dX5_reads_86 ?_
          refine v_st (st' := [.int (iI (g (4) (t))), .int (iI (x))]) (by rw [pS_o (by decide) (by decide)]) ?_
          refine v_icmp_ge (tgt := 103) C dX5_reads_87 (by decide) (by omega) (by omega) (fun c87 => ?_) (fun c87 => ?_)
          · skip
            refine v_aload_n C 1 dX5_reads_103 rfl ?_
            refine v_getf C (by omega) (by omega) ct_mod rfl 16 (by decide) wf90 hinX5 rfl dX5_reads_104 ?_
            refine v_st (st' := [.int (iI (w))]) (by rw [pS_w]) ?_
            refine v_if_eq (tgt := 115) C dX5_reads_107 (by decide) (by omega) (fun c107 => ?_) (fun c107 => ?_)
            · skip
              refine v_aload_n C 1 dX5_reads_115 rfl ?_
              refine v_getf C (by omega) (by omega) ct_mod rfl 15 (by decide) wf84 hinX5 rfl dX5_reads_116 ?_
              refine v_st (st' := [.int (iI (x))]) (by rw [pS_p]) ?_
              exact v_ret_i C rfl dX5_reads_119 ⟨(by rw [← hI70.2.2.2.2.2.2]; first | (rw [rs_0 (by omega)]; rfl) | (rw [rs_1 (by omega) (by omega)]; rfl)), (by rw [← hI70.2.2.2.2.2.2]; first | (rw [rs_0 (by omega), show w = 0 by omega]) | (rw [rs_1 (by omega) (by omega), show w = 1 by omega]))⟩
            · skip
              refine v_bipush C dX5_reads_110 (by decide) ?_
              refine v_goto (tgt := 119) C dX5_reads_112 (by decide) ?_
              exact v_ret_i C rfl dX5_reads_119 ⟨(by rw [← hI70.2.2.2.2.2.2]; first | (rw [rs_0 (by omega)]; rfl) | (rw [rs_1 (by omega) (by omega)]; rfl)), (by rw [← hI70.2.2.2.2.2.2]; first | (rw [rs_0 (by omega), show w = 0 by omega]) | (rw [rs_1 (by omega) (by omega), show w = 1 by omega]))⟩
          · skip
            refine v_g (g' := (pS g E x 1)) (by rw [show w = 1 by omega]) ?_
            refine v_aload_n C 1 dX5_reads_90 rfl ?_
            refine v_iload_n C 2 dX5_reads_91 rfl ?_
            refine v_cV_v C (As := [.int (iI (t))]) (rest := []) (c_X5_readsBeast l D yc t1 t2 a A g t E x (by omega) (by omega) HB (by omega) (by omega)) (cwV 1 C.hts gX5_reads_X5_readsBeast rfl rfl rfl (by decide +kernel) ⟨by decide, by decide⟩) (fun H hP => va_recv C.hK hP (ci := 5) (q0 := (0 : Int).toNat) rfl (wo_is (by omega) (by omega) ct_mod)) rfl rfl (Nat.le_of_ble_eq_true rfl) dX5_reads_92 ?_
            intro g9 h9
            rw [h9]
            clear h9 g9
            try dsimp only
            have hbx := bP_r (B := (fun x9 => g 5 (60 * t + x9))) (L := (g 4 t)) (D := E) (p := x) (by omega) hL.2 (by omega)
            have hbw2 := bW_01 (fun x9 => g 5 (60 * t + x9)) (g 4 t) E x
            have hb62 := bW_6 (B := (fun x9 => g 5 (60 * t + x9))) (L := (g 4 t)) (D := E) (p := x)
            have hs3 := sk_r (fun x9 => g 5 (60 * t + x9)) (L := (g 4 t)) (p := bP (fun x9 => g 5 (60 * t + x9)) (g 4 t) E x) hL.2 (by omega)
            refine v_aload_n C 1 dX5_reads_95 rfl ?_
            refine v_iload_n C 2 dX5_reads_96 rfl ?_
            refine v_cV_v C (As := [.int (iI (t))]) (rest := []) (c_X5_skipsIf l D yc t1 t2 a A g t (bD (fun x9 => g 5 (60 * t + x9)) (g 4 t) E x) (bP (fun x9 => g 5 (60 * t + x9)) (g 4 t) E x) (bW (fun x9 => g 5 (60 * t + x9)) (g 4 t) E x) (by omega) (by omega) HB (by omega) (by omega)) (cwV 1 C.hts gX5_reads_X5_skipsIf rfl rfl rfl (by decide +kernel) ⟨by decide, by decide⟩) (fun H hP => va_recv C.hK hP (ci := 5) (q0 := (0 : Int).toNat) rfl (wo_is (by omega) (by omega) ct_mod)) rfl rfl (Nat.le_of_ble_eq_true rfl) dX5_reads_97 ?_
            intro g9 h9
            rw [h9]
            clear h9 g9
            try dsimp only
            refine v_goto (tgt := 70) C dX5_reads_100 (by decide) ?_
            exact ih70 ((bD (fun x9 => g 5 (60 * t + x9)) (g 4 t) E x)) (if (bW (fun x9 => g 5 (60 * t + x9)) (g 4 t) E x) = 0 then (bP (fun x9 => g 5 (60 * t + x9)) (g 4 t) E x) else sk (fun x9 => g 5 (60 * t + x9)) (g 4 t) (bP (fun x9 => g 5 (60 * t + x9)) (g 4 t) E x)) ((bW (fun x9 => g 5 (60 * t + x9)) (g 4 t) E x)) (n - 1) ⟨by split <;> omega, by split <;> omega, bW_01 _ _ _ _, by rw [bD_0]; omega, by rw [bD_0]; omega, by rw [bD_0]; omega, by rw [← hI70.2.2.2.2.2.2]; exact (rs_s c74 c87 (by omega)).symm⟩ (by omega)
  · skip
    refine v_aload_n C 1 dX5_reads_8 rfl ?_
    refine v_getf C (by omega) (by omega) ct_mod rfl 6 (by decide) wf28 hinX5 rfl dX5_reads_9 ?_
    refine v_iload_n C 0 dX5_reads_12 rfl ?_
    refine v_iconst C dX5_reads_13 ?_
    refine v_iastore C (ctm_L a yc) (by omega) (by omega) ct_mdraft (ct_mdraft).symm (by omega) (by omega) (by decide) dX5_reads_14 ?_
    refine v_iinc (z' := j + 1) (lv' := [(2, .int (iI (j + 1))), (0, .ref (a (0))), (1, .int (iI (t)))]) C 0 dX5_reads_15 rfl (by omega) (by decide) rfl ?_
    refine v_goto (tgt := 2) C dX5_reads_18 (by decide) ?_
    exact v_g (fls_s0 (by omega)) (ih2 (j + 1) (by omega) (by omega))
