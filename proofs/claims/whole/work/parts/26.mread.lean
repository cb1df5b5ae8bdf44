set_option maxRecDepth 100000 in
set_option maxHeartbeats 4000000 in
theorem c_X5_look (l : Launch) (D : va_G) (yc : Nat → ClassId) (t1 t2 : Nat) (a : Int → Nat) (A : Nat → Prop) (g : Mm) (t : Int) (Dr : Int → Int) (pl wl : Int) (ht : 0 ≤ t ∧ t < 4) (hL : -1 ≤ g 4 t ∧ g 4 t ≤ 60) (HB : ∀ j, -128 ≤ g 5 j ∧ g 5 j ≤ 127) (hp : 0 ≤ pl ∧ pl ≤ 60) : Ci l yX5_look wsX5_look { frames := 0, cells := 0, slots := 0, locals := 0 } D yc t1 t2 A (mw a yc) [.ref (a (0)), .int (iI (t))] (pS g Dr pl wl) (fun r9 g' => r9 = (iI (lk (fun x9 => g 5 (60 * t + x9)) (g 4 t) pl)) ∧ g' = (pS g Dr pl wl)) := by
  refine start_i (cc := cX5_look) (nL := 2) (ret := (some .int)) (own := RX5) (by decide +kernel) rfl rfl (Nat.le_of_ble_eq_true rfl) ?_
  intro p e s m9 below meth c9 C
  have wf84 : Cond.fieldLink RX5 84 (TX5 15).1 (TX5 15).2.1 (TX5 15).2.2.1 ∈ wsX5_look := by decide +kernel
  have hinX5 : ∀ w ∈ u_ws RX5 TX5 17, w ∈ wsX5_look := by decide +kernel
  have wf19 : Cond.fieldLink RX5 19 (TX5 3).1 (TX5 3).2.1 (TX5 3).2.2.1 ∈ wsX5_look := by decide +kernel
  have wf22 : Cond.fieldLink RX5 22 (TX5 4).1 (TX5 4).2.1 (TX5 4).2.2.1 ∈ wsX5_look := by decide +kernel
  refine v_lv (lv' := [(0, .ref (a (0))), (1, .int (iI (t)))]) rfl ?_
  refine v_aload_n C 0 dX5_look_0 rfl ?_
  refine v_getf C (by omega) (by omega) ct_mod rfl 15 (by decide) wf84 hinX5 rfl dX5_look_1 ?_
  refine v_st (st' := [.int (iI (pl))]) (by rw [pS_p]) ?_
  refine v_aload_n C 0 dX5_look_4 rfl ?_
  refine v_getf C (by omega) (by omega) ct_mod rfl 3 (by decide) wf19 hinX5 rfl dX5_look_5 ?_
  refine v_iload_n C 1 dX5_look_8 rfl ?_
  refine v_iaload C (by omega) (by omega) ct_mlengths (by omega) (by omega) (by decide) dX5_look_9 ?_
  refine v_st (st' := [.int (iI (g (4) (t))), .int (iI (pl))]) (by rw [pS_o (by decide) (by decide)]) ?_
  refine v_icmp_ge (tgt := 30) C dX5_look_10 (by decide) (by omega) (by omega) (fun c10 => ?_) (fun c10 => ?_)
  · skip
    refine v_sipush C dX5_look_30 (by decide) ?_
    exact v_ret_i C rfl dX5_look_33 ⟨(by unfold lk; first | rw [if_pos (by omega)] | rw [if_neg (by omega)]), rfl⟩
  · skip
    refine v_aload_n C 0 dX5_look_13 rfl ?_
    refine v_getf C (by omega) (by omega) ct_mod rfl 4 (by decide) wf22 hinX5 rfl dX5_look_14 ?_
    refine v_bipush C dX5_look_17 (by decide) ?_
    refine v_iload_n C 1 dX5_look_19 rfl ?_
    refine v_imul C dX5_look_20 ?_
    refine v_aload_n C 0 dX5_look_21 rfl ?_
    refine v_getf C (by omega) (by omega) ct_mod rfl 15 (by decide) wf84 hinX5 rfl dX5_look_22 ?_
    refine v_st (st' := [.int (iI (pl)), .int (iI (60 * t)), .ref (a (5))]) (by rw [pS_p]) ?_
    refine v_iadd C dX5_look_25 ?_
    refine v_iaload C (by omega) (by omega) ct_mbytes (by omega) (by omega) (by decide) dX5_look_26 ?_
    refine v_st (st' := [.int (iI (g (5) ((60 * t) + pl)))]) (by rw [pS_o (by decide) (by decide)]) ?_
    refine v_goto (tgt := 33) C dX5_look_27 (by decide) ?_
    exact v_ret_i C rfl dX5_look_33 ⟨(by unfold lk; first | rw [if_pos (by omega)] | rw [if_neg (by omega)]), rfl⟩

set_option maxRecDepth 100000 in
set_option maxHeartbeats 4000000 in
theorem c_X5_skips (l : Launch) (D : va_G) (yc : Nat → ClassId) (t1 t2 : Nat) (a : Int → Nat) (A : Nat → Prop) (g : Mm) (t : Int) (Dr : Int → Int) (pl wl : Int) (ht : 0 ≤ t ∧ t < 4) (hL : -1 ≤ g 4 t ∧ g 4 t ≤ 60) (HB : ∀ j, -128 ≤ g 5 j ∧ g 5 j ≤ 127) (hp : 0 ≤ pl ∧ pl ≤ 60) : Cv l yX5_skips wsX5_skips { frames := 1, cells := 0, slots := 0, locals := 21 } D yc t1 t2 A (mw a yc) [.ref (a (0)), .int (iI (t))] (pS g Dr pl wl) (fun g' => g' = (pS g Dr (sk (fun x9 => g 5 (60 * t + x9)) (g 4 t) pl) wl)) := by
  refine start_v (cc := cX5_skips) (nL := 2) (ret := none) (own := RX5) (by decide +kernel) rfl rfl (Nat.le_of_ble_eq_true rfl) ?_
  intro p e s m9 below meth c9 C
  have wf84 : Cond.fieldLink RX5 84 (TX5 15).1 (TX5 15).2.1 (TX5 15).2.2.1 ∈ wsX5_skips := by decide +kernel
  have hinX5 : ∀ w ∈ u_ws RX5 TX5 17, w ∈ wsX5_skips := by decide +kernel
  refine v_lv (lv' := [(0, .ref (a (0))), (1, .int (iI (t)))]) rfl ?_
  refine v_loop1 (fun (x : Int) => (60 - x).toNat) (fun (x : Int) => 0 ≤ x ∧ x ≤ 60 ∧ sk (fun x9 => g 5 (60 * t + x9)) (g 4 t) x = sk (fun x9 => g 5 (60 * t + x9)) (g 4 t) pl) (fun (x : Int) => [(0, .ref (a (0))), (1, .int (iI (t)))]) (fun (x : Int) => (pS g Dr x wl)) ?_ pl ⟨by omega, by omega, rfl⟩
  intro x hI0 ih0
  try dsimp only at ih0 ⊢
  refine v_aload_n C 0 dX5_skips_0 rfl ?_
  refine v_iload_n C 1 dX5_skips_1 rfl ?_
  refine v_cV_i C (As := [.int (iI (t))]) (rest := []) (c_X5_look l D yc t1 t2 a A g t Dr x wl (by omega) (by omega) HB (by omega)) (cwV 1 C.hts gX5_skips_X5_look rfl rfl rfl (by decide +kernel) ⟨by decide, by decide⟩) (fun H hP => va_recv C.hK hP (ci := 5) (q0 := (0 : Int).toNat) rfl (wo_is (by omega) (by omega) ct_mod)) rfl rfl (Nat.le_of_ble_eq_true rfl) dX5_skips_2 ?_
  intro r9 g9 h9
  rw [h9.1, h9.2]
  clear h9 g9 r9
  try dsimp only
  have hlr : -1000 ≤ lk (fun x9 => g 5 (60 * t + x9)) (g 4 t) x ∧ lk (fun x9 => g 5 (60 * t + x9)) (g 4 t) x ≤ 127 := by unfold lk; have := HB (60 * t + x); split <;> omega
  refine v_bipush C dX5_skips_5 (by decide) ?_
  refine v_icmp_ne (tgt := 23) C dX5_skips_7 (by decide) (by omega) (by omega) (fun c7 => ?_) (fun c7 => ?_)
  · skip
    exact v_ret_v C rfl dX5_skips_23 (by rw [← hI0.2.2, sk_n c7])
  · skip
    refine v_aload_n C 0 dX5_skips_10 rfl ?_
    refine v_dup C dX5_skips_11 rfl ?_
    refine v_getf C (by omega) (by omega) ct_mod rfl 15 (by decide) wf84 hinX5 rfl dX5_skips_12 ?_
    refine v_st (st' := [.int (iI (x)), .ref (a (0))]) (by rw [pS_p]) ?_
    refine v_iconst C dX5_skips_15 ?_
    refine v_iadd C dX5_skips_16 ?_
    refine v_puti C (ctm_L a yc) (by omega) (by omega) ct_mod rfl 15 (by decide) wf84 hinX5 tyX5 tyX5_ok nmX5 rfl (by decide +kernel) (by simp) cs_mod_15 dX5_skips_17 ?_
    refine v_g (g' := (pS g Dr (x + 1) wl)) (pS_1 _ _ _ _ _) ?_
    refine v_goto (tgt := 0) C dX5_skips_20 (by decide) ?_
    exact ih0 (x + 1) ⟨by omega, by have := lk_32 (B := (fun x9 => g 5 (60 * t + x9))) (L := (g 4 t)) (p := x) (by omega); omega, by rw [← hI0.2.2]; exact (sk_y (by omega) c7).symm⟩ (by have := lk_32 (B := (fun x9 => g 5 (60 * t + x9))) (L := (g 4 t)) (p := x) (by omega); omega)

set_option maxRecDepth 100000 in
set_option maxHeartbeats 4000000 in
theorem c_X5_takes (l : Launch) (D : va_G) (yc : Nat → ClassId) (t1 t2 : Nat) (a : Int → Nat) (A : Nat → Prop) (g : Mm) (b : Int) (Dr : Int → Int) (pl wl : Int) (hw : wl = 0 ∨ wl = 1) (hb : b = 0 ∨ b = 1) : Cv l yX5_takes wsX5_takes { frames := 0, cells := 0, slots := 0, locals := 0 } D yc t1 t2 A (mw a yc) [.ref (a (0)), .int (iI (b))] (pS g Dr pl wl) (fun g' => g' = (pS g Dr (pl + an wl b) (an wl b))) := by
  refine start_v (cc := cX5_takes) (nL := 2) (ret := none) (own := RX5) (by decide +kernel) rfl rfl (Nat.le_of_ble_eq_true rfl) ?_
  intro p e s m9 below meth c9 C
  have wf90 : Cond.fieldLink RX5 90 (TX5 16).1 (TX5 16).2.1 (TX5 16).2.2.1 ∈ wsX5_takes := by decide +kernel
  have hinX5 : ∀ w ∈ u_ws RX5 TX5 17, w ∈ wsX5_takes := by decide +kernel
  have wf84 : Cond.fieldLink RX5 84 (TX5 15).1 (TX5 15).2.1 (TX5 15).2.2.1 ∈ wsX5_takes := by decide +kernel
  refine v_lv (lv' := [(0, .ref (a (0))), (1, .int (iI (b)))]) rfl ?_
  refine v_aload_n C 0 dX5_takes_0 rfl ?_
  refine v_cut1 17 (fun (v17 : Int) => v17 = an wl b) (fun (v17 : Int) => [(0, .ref (a (0))), (1, .int (iI (b)))]) (fun (v17 : Int) => [.int (iI (v17)), .ref (a (0))]) (fun (v17 : Int) => (pS g Dr pl wl)) ?_ ?_
  · intro v17 hj17
    try dsimp only
    have hv17 : v17 = 0 ∨ v17 = 1 := by rw [hj17]; unfold an; split <;> omega
    refine v_putz C (ctm_L a yc) (by omega) (by omega) ct_mod rfl 16 (by decide) wf90 hinX5 tyX5 tyX5_ok nmX5 rfl (by decide +kernel) (by simp) (by omega) cs_mod_16 dX5_takes_17 ?_
    refine v_g (g' := (pS g Dr pl v17)) (pS_2 _ _ _ _ _) ?_
    refine v_aload_n C 0 dX5_takes_20 rfl ?_
    refine v_dup C dX5_takes_21 rfl ?_
    refine v_getf C (by omega) (by omega) ct_mod rfl 15 (by decide) wf84 hinX5 rfl dX5_takes_22 ?_
    refine v_st (st' := [.int (iI (pl)), .ref (a (0))]) (by rw [pS_p]) ?_
    refine v_cut1 37 (fun (v37 : Int) => v37 = v17) (fun (v37 : Int) => [(0, .ref (a (0))), (1, .int (iI (b)))]) (fun (v37 : Int) => [.int (iI (v37)), .int (iI (pl)), .ref (a (0))]) (fun (v37 : Int) => (pS g Dr pl v17)) ?_ ?_
    · intro v37 hj37
      try dsimp only
      refine v_iadd C dX5_takes_37 ?_
      refine v_puti C (ctm_L a yc) (by omega) (by omega) ct_mod rfl 15 (by decide) wf84 hinX5 tyX5 tyX5_ok nmX5 rfl (by decide +kernel) (by simp) cs_mod_15 dX5_takes_38 ?_
      refine v_g (g' := (pS g Dr (pl + v37) v17)) (pS_1 _ _ _ _ _) ?_
      exact v_ret_v C rfl dX5_takes_41 (by rw [hj37, hj17])
    · intro jn37
      try dsimp only at jn37
      refine v_aload_n C 0 dX5_takes_25 rfl ?_
      refine v_getf C (by omega) (by omega) ct_mod rfl 16 (by decide) wf90 hinX5 rfl dX5_takes_26 ?_
      refine v_st (st' := [.int (iI (v17)), .int (iI (pl)), .ref (a (0))]) (by rw [pS_w]) ?_
      refine v_if_eq (tgt := 36) C dX5_takes_29 (by decide) (by omega) (fun c29 => ?_) (fun c29 => ?_)
      · skip
        refine v_iconst C dX5_takes_36 ?_
        exact jn37 0 (by omega)
      · skip
        refine v_iconst C dX5_takes_32 ?_
        refine v_goto (tgt := 37) C dX5_takes_33 (by decide) ?_
        exact jn37 1 (by omega)
  · intro jn17
    try dsimp only at jn17
    refine v_aload_n C 0 dX5_takes_1 rfl ?_
    refine v_getf C (by omega) (by omega) ct_mod rfl 16 (by decide) wf90 hinX5 rfl dX5_takes_2 ?_
    refine v_st (st' := [.int (iI (wl)), .ref (a (0))]) (by rw [pS_w]) ?_
    refine v_if_eq (tgt := 16) C dX5_takes_5 (by decide) (by omega) (fun c5 => ?_) (fun c5 => ?_)
    · skip
      refine v_iconst C dX5_takes_16 ?_
      exact jn17 0 (by unfold an; first | rw [if_pos (by omega)] | rw [if_neg (by omega)])
    · skip
      refine v_iload_n C 1 dX5_takes_8 rfl ?_
      refine v_if_eq (tgt := 16) C dX5_takes_9 (by decide) (by omega) (fun c9 => ?_) (fun c9 => ?_)
      · skip
        refine v_iconst C dX5_takes_16 ?_
        exact jn17 0 (by unfold an; first | rw [if_pos (by omega)] | rw [if_neg (by omega)])
      · skip
        refine v_iconst C dX5_takes_12 ?_
        refine v_goto (tgt := 17) C dX5_takes_13 (by decide) ?_
        exact jn17 1 (by unfold an; first | rw [if_pos (by omega)] | rw [if_neg (by omega)])

set_option maxRecDepth 100000 in
set_option maxHeartbeats 4000000 in
theorem c_X5_kindOf (l : Launch) (D : va_G) (yc : Nat → ClassId) (t1 t2 : Nat) (A : Nat → Prop) {M : Type} (ww : M → va_W) (g : M) (ch : Int) (hch : R32 ch) : Ci l yX5_kindOf wsX5_kindOf { frames := 0, cells := 0, slots := 0, locals := 0 } D yc t1 t2 A ww [.int (iI (ch))] g (fun r9 g' => r9 = (iI (kd ch)) ∧ g' = g) := by
  refine start_i (cc := cX5_kindOf) (nL := 1) (ret := (some .int)) (own := RX5) (by decide +kernel) rfl rfl (Nat.le_of_ble_eq_true rfl) ?_
  intro p e s m9 below meth c9 C
  refine v_lv (lv' := [(0, .int (iI (ch)))]) rfl ?_
  refine v_iload_n C 0 dX5_kindOf_0 rfl ?_
  rcases (show ch = 99 ∨ ch = 100 ∨ ch = 104 ∨ ch = 117 ∨ ch = 120 ∨ ch = 121 ∨ (¬ ch = 99 ∧ ¬ ch = 100 ∧ ¬ ch = 104 ∧ ¬ ch = 117 ∧ ¬ ch = 120 ∧ ¬ ch = 121) by omega) with c1 | c1 | c1 | c1 | c1 | c1 | c1
  · refine v_lsw (off := 59) (tgt := 60) C dX5_kindOf_1 (by omega) rfl (by rw [c1]; decide) (by decide) ?_
    refine v_iconst C dX5_kindOf_60 ?_
    exact v_ret_i C rfl dX5_kindOf_61 ⟨(by unfold kd; repeat (first | rfl | rw [if_pos (by omega)] | rw [if_neg (by omega)])), rfl⟩
  · refine v_lsw (off := 61) (tgt := 62) C dX5_kindOf_1 (by omega) rfl (by rw [c1]; decide) (by decide) ?_
    refine v_iconst C dX5_kindOf_62 ?_
    exact v_ret_i C rfl dX5_kindOf_63 ⟨(by unfold kd; repeat (first | rfl | rw [if_pos (by omega)] | rw [if_neg (by omega)])), rfl⟩
  · refine v_lsw (off := 67) (tgt := 68) C dX5_kindOf_1 (by omega) rfl (by rw [c1]; decide) (by decide) ?_
    refine v_iconst C dX5_kindOf_68 ?_
    exact v_ret_i C rfl dX5_kindOf_69 ⟨(by unfold kd; repeat (first | rfl | rw [if_pos (by omega)] | rw [if_neg (by omega)])), rfl⟩
  · refine v_lsw (off := 65) (tgt := 66) C dX5_kindOf_1 (by omega) rfl (by rw [c1]; decide) (by decide) ?_
    refine v_iconst C dX5_kindOf_66 ?_
    exact v_ret_i C rfl dX5_kindOf_67 ⟨(by unfold kd; repeat (first | rfl | rw [if_pos (by omega)] | rw [if_neg (by omega)])), rfl⟩
  · refine v_lsw (off := 69) (tgt := 70) C dX5_kindOf_1 (by omega) rfl (by rw [c1]; decide) (by decide) ?_
    refine v_iconst C dX5_kindOf_70 ?_
    exact v_ret_i C rfl dX5_kindOf_71 ⟨(by unfold kd; repeat (first | rfl | rw [if_pos (by omega)] | rw [if_neg (by omega)])), rfl⟩
  · refine v_lsw (off := 63) (tgt := 64) C dX5_kindOf_1 (by omega) rfl (by rw [c1]; decide) (by decide) ?_
    refine v_iconst C dX5_kindOf_64 ?_
    exact v_ret_i C rfl dX5_kindOf_65 ⟨(by unfold kd; repeat (first | rfl | rw [if_pos (by omega)] | rw [if_neg (by omega)])), rfl⟩
  · refine v_lsw (off := 71) (tgt := 72) C dX5_kindOf_1 (by omega) rfl (by simp [Op.lookupswitch.offset, c1]) (by decide) ?_
    refine v_bipush C dX5_kindOf_72 (by decide) ?_
    exact v_ret_i C rfl dX5_kindOf_74 ⟨(by unfold kd; repeat (first | rfl | rw [if_pos (by omega)] | rw [if_neg (by omega)])), rfl⟩

set_option maxRecDepth 100000 in
set_option maxHeartbeats 4000000 in
theorem c_X5_readsTurns (l : Launch) (D : va_G) (yc : Nat → ClassId) (t1 t2 : Nat) (a : Int → Nat) (A : Nat → Prop) (g : Mm) (t : Int) (Dr : Int → Int) (pl wl : Int) (ht : 0 ≤ t ∧ t < 4) (hL : -1 ≤ g 4 t ∧ g 4 t ≤ 60) (HB : ∀ j, -128 ≤ g 5 j ∧ g 5 j ≤ 127) (hp : 0 ≤ pl ∧ pl ≤ 60) (hw : wl = 1) (hD : Dr 1 = 0) : Cv l yX5_readsTurns wsX5_readsTurns { frames := 2, cells := 0, slots := 0, locals := 42 } D yc t1 t2 A (mw a yc) [.ref (a (0)), .int (iI (t))] (pS g Dr pl wl) (fun g' => g' = (pS g (iD (fun x9 => g 5 (60 * t + x9)) (g 4 t) 116 97 98 6 1 8 pl Dr) (iP (fun x9 => g 5 (60 * t + x9)) (g 4 t) 116 97 98 8 pl) (iW (fun x9 => g 5 (60 * t + x9)) (g 4 t) 116 97 98 8 pl))) := by
  refine start_v (cc := cX5_readsTurns) (nL := 4) (ret := none) (own := RX5) (by decide +kernel) rfl rfl (Nat.le_of_ble_eq_true rfl) ?_
  intro p e s m9 below meth c9 C
  have wf90 : Cond.fieldLink RX5 90 (TX5 16).1 (TX5 16).2.1 (TX5 16).2.2.1 ∈ wsX5_readsTurns := by decide +kernel
  have hinX5 : ∀ w ∈ u_ws RX5 TX5 17, w ∈ wsX5_readsTurns := by decide +kernel
  have hsr := sk_r (fun x9 => g 5 (60 * t + x9)) (L := (g 4 t)) (p := pl) (by omega) (by omega)
  have hl0 : -1000 ≤ lk (fun x9 => g 5 (60 * t + x9)) (g 4 t) (sk (fun x9 => g 5 (60 * t + x9)) (g 4 t) pl) ∧ lk (fun x9 => g 5 (60 * t + x9)) (g 4 t) (sk (fun x9 => g 5 (60 * t + x9)) (g 4 t) pl) ≤ 127 := by unfold lk; have := HB (60 * t + (sk (fun x9 => g 5 (60 * t + x9)) (g 4 t) pl)); split <;> omega
  subst hw
  refine v_lv (lv' := [(0, .ref (a (0))), (1, .int (iI (t)))]) rfl ?_
  refine v_aload_n C 0 dX5_readsTurns_0 rfl ?_
  refine v_iload_n C 1 dX5_readsTurns_1 rfl ?_
  refine v_cV_v C (As := [.int (iI (t))]) (rest := []) (c_X5_skips l D yc t1 t2 a A g t Dr pl wl (by omega) (by omega) HB (by omega)) (cwV 1 C.hts gX5_readsTurns_X5_skips rfl rfl rfl (by decide +kernel) ⟨by decide, by decide⟩) (fun H hP => va_recv C.hK hP (ci := 5) (q0 := (0 : Int).toNat) rfl (wo_is (by omega) (by omega) ct_mod)) rfl rfl (Nat.le_of_ble_eq_true rfl) dX5_readsTurns_2 ?_
  intro g9 h9
  rw [h9]
  clear h9 g9
  try dsimp only
  refine v_aload_n C 0 dX5_readsTurns_5 rfl ?_
  refine v_aload_n C 0 dX5_readsTurns_6 rfl ?_
  refine v_iload_n C 1 dX5_readsTurns_7 rfl ?_
  refine v_cV_i C (As := [.int (iI (t))]) (rest := [.ref (a (0))]) (c_X5_look l D yc t1 t2 a A g t Dr (sk (fun x9 => g 5 (60 * t + x9)) (g 4 t) pl) wl (by omega) (by omega) HB (by omega)) (cwV 1 C.hts gX5_readsTurns_X5_look rfl rfl rfl (by decide +kernel) ⟨by decide, by decide⟩) (fun H hP => va_recv C.hK hP (ci := 5) (q0 := (0 : Int).toNat) rfl (wo_is (by omega) (by omega) ct_mod)) rfl rfl (Nat.le_of_ble_eq_true rfl) dX5_readsTurns_8 ?_
  intro r9 g9 h9
  rw [h9.1, h9.2]
  clear h9 g9 r9
  try dsimp only
  refine v_bipush C dX5_readsTurns_11 (by decide) ?_
  refine v_icmp_ne (tgt := 20) C dX5_readsTurns_13 (by decide) (by omega) (by omega) (fun c13 => ?_) (fun c13 => ?_)
  · skip
    refine v_iconst C dX5_readsTurns_20 ?_
    refine v_cV_v C (As := [.int (iI (0))]) (rest := []) (c_X5_takes l D yc t1 t2 a A g 0 Dr (sk (fun x9 => g 5 (60 * t + x9)) (g 4 t) pl) wl (Or.inr rfl) (by omega)) (cwV 1 C.hts gX5_readsTurns_X5_takes rfl rfl rfl (by decide +kernel) ⟨by decide, by decide⟩) (fun H hP => va_recv C.hK hP (ci := 5) (q0 := (0 : Int).toNat) rfl (wo_is (by omega) (by omega) ct_mod)) rfl rfl (Nat.le_of_ble_eq_true rfl) dX5_readsTurns_21 ?_
    intro g9 h9
    rw [h9]
    clear h9 g9
    try dsimp only
    refine v_g (g' := (pS g Dr (sk (fun x9 => g 5 (60 * t + x9)) (g 4 t) pl) 0)) (by first | rw [an_11] | rw [an_10, Int.add_zero]) ?_
    refine v_iconst C dX5_readsTurns_24 ?_
    refine v_istore_n (lv' := [(2, .int (iI (1))), (0, .ref (a (0))), (1, .int (iI (t)))]) C dX5_readsTurns_25 (by decide) rfl ?_
    refine v_aload_n C 1 dX5_readsTurns_26 rfl ?_
    refine v_getf C (by omega) (by omega) ct_mod rfl 16 (by decide) wf90 hinX5 rfl dX5_readsTurns_27 ?_
    refine v_st (st' := [.int (iI (0))]) (by rw [pS_w]) ?_
    refine v_if_eq (tgt := 125) C dX5_readsTurns_30 (by decide) (by decide) (fun _ => ?_) (fun h9 => absurd h9 (by decide))
    exact v_ret_v C rfl dX5_readsTurns_125 (by first | (by have hz := it_n (B := (fun x9 => g 5 (60 * t + x9))) (L := (g 4 t)) (c := 116) (lo := 97) (hi := 98) (bs := 6) (cs := 1) (p := pl) (mx := 8) (D := Dr) c13; rw [hz.1, hz.2.1, hz.2.2]) | (have hz := it_y (B := (fun x9 => g 5 (60 * t + x9))) (L := (g 4 t)) (c := 116) (lo := 97) (hi := 98) (bs := 6) (cs := 1) (p := pl) (k := k) (mx := 8) (D := Dr) c13 (by omega) (by omega) (by rw [← hI26.2.2.2.2.2.2]; exact ff_y (by omega) (decide_eq_true (by omega))); rw [hz.1, hz.2.1, hz.2.2]) | (have hk0 : k = 0 := (by omega); have hz := it_0 (B := (fun x9 => g 5 (60 * t + x9))) (L := (g 4 t)) (c := 116) (lo := 97) (hi := 98) (bs := 6) (cs := 1) (p := pl) (mx := 8) (D := Dr) c13 (by omega) (by rw [← hI26.2.2.2.2.2.2, hk0, Int.add_zero]; exact ff_y (by omega) (decide_eq_true (by rw [hk0, Int.add_zero] at *; omega))); rw [hz.1, hz.2.1, hz.2.2, hk0, Int.add_zero]; rfl) | (have hk8 : k = 8 := (by omega); have hz := it_m (B := (fun x9 => g 5 (60 * t + x9))) (L := (g 4 t)) (c := 116) (lo := 97) (hi := 98) (bs := 6) (cs := 1) (p := pl) (mx := 8) (D := Dr) c13 (by rw [← hI26.2.2.2.2.2.2, ff_n (by omega) (fun h => absurd (of_decide_eq_true h) (by omega)), ff_e (by omega)]); rw [hz.1, hz.2.1, hz.2.2, hk8]; rfl))
  · skip
    refine v_iconst C dX5_readsTurns_16 ?_
    refine v_goto (tgt := 21) C dX5_readsTurns_17 (by decide) ?_
    refine v_cV_v C (As := [.int (iI (1))]) (rest := []) (c_X5_takes l D yc t1 t2 a A g 1 Dr (sk (fun x9 => g 5 (60 * t + x9)) (g 4 t) pl) wl (Or.inr rfl) (by omega)) (cwV 1 C.hts gX5_readsTurns_X5_takes rfl rfl rfl (by decide +kernel) ⟨by decide, by decide⟩) (fun H hP => va_recv C.hK hP (ci := 5) (q0 := (0 : Int).toNat) rfl (wo_is (by omega) (by omega) ct_mod)) rfl rfl (Nat.le_of_ble_eq_true rfl) dX5_readsTurns_21 ?_
    intro g9 h9
    rw [h9]
    clear h9 g9
    try dsimp only
    refine v_g (g' := (pS g Dr (sk (fun x9 => g 5 (60 * t + x9)) (g 4 t) pl) 0)) (by first | rw [an_11] | rw [an_10, Int.add_zero]) ?_
    refine v_iconst C dX5_readsTurns_24 ?_
    refine v_istore_n (lv' := [(2, .int (iI (1))), (0, .ref (a (0))), (1, .int (iI (t)))]) C dX5_readsTurns_25 (by decide) rfl ?_
    refine v_aload_n C 1 dX5_readsTurns_26 rfl ?_
    refine v_getf C (by omega) (by omega) ct_mod rfl 16 (by decide) wf90 hinX5 rfl dX5_readsTurns_27 ?_
    refine v_st (st' := [.int (iI (0))]) (by rw [pS_w]) ?_
    refine v_if_eq (tgt := 125) C dX5_readsTurns_30 (by decide) (by decide) (fun _ => ?_) (fun h9 => absurd h9 (by decide))
    exact v_ret_v C rfl dX5_readsTurns_125 (by first | (by have hz := it_n (B := (fun x9 => g 5 (60 * t + x9))) (L := (g 4 t)) (c := 116) (lo := 97) (hi := 98) (bs := 6) (cs := 1) (p := pl) (mx := 8) (D := Dr) c13; rw [hz.1, hz.2.1, hz.2.2]) | (have hz := it_y (B := (fun x9 => g 5 (60 * t + x9))) (L := (g 4 t)) (c := 116) (lo := 97) (hi := 98) (bs := 6) (cs := 1) (p := pl) (k := k) (mx := 8) (D := Dr) c13 (by omega) (by omega) (by rw [← hI26.2.2.2.2.2.2]; exact ff_y (by omega) (decide_eq_true (by omega))); rw [hz.1, hz.2.1, hz.2.2]) | (have hk0 : k = 0 := (by omega); have hz := it_0 (B := (fun x9 => g 5 (60 * t + x9))) (L := (g 4 t)) (c := 116) (lo := 97) (hi := 98) (bs := 6) (cs := 1) (p := pl) (mx := 8) (D := Dr) c13 (by omega) (by rw [← hI26.2.2.2.2.2.2, hk0, Int.add_zero]; exact ff_y (by omega) (decide_eq_true (by rw [hk0, Int.add_zero] at *; omega))); rw [hz.1, hz.2.1, hz.2.2, hk0, Int.add_zero]; rfl) | (have hk8 : k = 8 := (by omega); have hz := it_m (B := (fun x9 => g 5 (60 * t + x9))) (L := (g 4 t)) (c := 116) (lo := 97) (hi := 98) (bs := 6) (cs := 1) (p := pl) (mx := 8) (D := Dr) c13 (by rw [← hI26.2.2.2.2.2.2, ff_n (by omega) (fun h => absurd (of_decide_eq_true h) (by omega)), ff_e (by omega)]); rw [hz.1, hz.2.1, hz.2.2, hk8]; rfl))

set_option maxRecDepth 100000 in
set_option maxHeartbeats 4000000 in
theorem c_X5_readsMilk (l : Launch) (D : va_G) (yc : Nat → ClassId) (t1 t2 : Nat) (a : Int → Nat) (A : Nat → Prop) (g : Mm) (t : Int) (Dr : Int → Int) (pl wl : Int) (ht : 0 ≤ t ∧ t < 4) (hL : -1 ≤ g 4 t ∧ g 4 t ≤ 60) (HB : ∀ j, -128 ≤ g 5 j ∧ g 5 j ≤ 127) (hp : 0 ≤ pl ∧ pl ≤ 60) (hw : wl = 1) (hD : Dr 2 = 0) : Cv l yX5_readsMilk wsX5_readsMilk { frames := 2, cells := 0, slots := 0, locals := 42 } D yc t1 t2 A (mw a yc) [.ref (a (0)), .int (iI (t))] (pS g Dr pl wl) (fun g' => g' = (pS g (iD (fun x9 => g 5 (60 * t + x9)) (g 4 t) 109 48 57 14 2 6 pl Dr) (iP (fun x9 => g 5 (60 * t + x9)) (g 4 t) 109 48 57 6 pl) (iW (fun x9 => g 5 (60 * t + x9)) (g 4 t) 109 48 57 6 pl))) := by
  refine start_v (cc := cX5_readsMilk) (nL := 4) (ret := none) (own := RX5) (by decide +kernel) rfl rfl (Nat.le_of_ble_eq_true rfl) ?_
  intro p e s m9 below meth c9 C
  have wf90 : Cond.fieldLink RX5 90 (TX5 16).1 (TX5 16).2.1 (TX5 16).2.2.1 ∈ wsX5_readsMilk := by decide +kernel
  have hinX5 : ∀ w ∈ u_ws RX5 TX5 17, w ∈ wsX5_readsMilk := by decide +kernel
  have hsr := sk_r (fun x9 => g 5 (60 * t + x9)) (L := (g 4 t)) (p := pl) (by omega) (by omega)
  have hl0 : -1000 ≤ lk (fun x9 => g 5 (60 * t + x9)) (g 4 t) (sk (fun x9 => g 5 (60 * t + x9)) (g 4 t) pl) ∧ lk (fun x9 => g 5 (60 * t + x9)) (g 4 t) (sk (fun x9 => g 5 (60 * t + x9)) (g 4 t) pl) ≤ 127 := by unfold lk; have := HB (60 * t + (sk (fun x9 => g 5 (60 * t + x9)) (g 4 t) pl)); split <;> omega
  subst hw
  refine v_lv (lv' := [(0, .ref (a (0))), (1, .int (iI (t)))]) rfl ?_
  refine v_aload_n C 0 dX5_readsMilk_0 rfl ?_
  refine v_iload_n C 1 dX5_readsMilk_1 rfl ?_
  refine v_cV_v C (As := [.int (iI (t))]) (rest := []) (c_X5_skips l D yc t1 t2 a A g t Dr pl wl (by omega) (by omega) HB (by omega)) (cwV 1 C.hts gX5_readsMilk_X5_skips rfl rfl rfl (by decide +kernel) ⟨by decide, by decide⟩) (fun H hP => va_recv C.hK hP (ci := 5) (q0 := (0 : Int).toNat) rfl (wo_is (by omega) (by omega) ct_mod)) rfl rfl (Nat.le_of_ble_eq_true rfl) dX5_readsMilk_2 ?_
  intro g9 h9
  rw [h9]
  clear h9 g9
  try dsimp only
  refine v_aload_n C 0 dX5_readsMilk_5 rfl ?_
  refine v_aload_n C 0 dX5_readsMilk_6 rfl ?_
  refine v_iload_n C 1 dX5_readsMilk_7 rfl ?_
  refine v_cV_i C (As := [.int (iI (t))]) (rest := [.ref (a (0))]) (c_X5_look l D yc t1 t2 a A g t Dr (sk (fun x9 => g 5 (60 * t + x9)) (g 4 t) pl) wl (by omega) (by omega) HB (by omega)) (cwV 1 C.hts gX5_readsMilk_X5_look rfl rfl rfl (by decide +kernel) ⟨by decide, by decide⟩) (fun H hP => va_recv C.hK hP (ci := 5) (q0 := (0 : Int).toNat) rfl (wo_is (by omega) (by omega) ct_mod)) rfl rfl (Nat.le_of_ble_eq_true rfl) dX5_readsMilk_8 ?_
  intro r9 g9 h9
  rw [h9.1, h9.2]
  clear h9 g9 r9
  try dsimp only
  refine v_bipush C dX5_readsMilk_11 (by decide) ?_
  refine v_icmp_ne (tgt := 20) C dX5_readsMilk_13 (by decide) (by omega) (by omega) (fun c13 => ?_) (fun c13 => ?_)
  · skip
    refine v_iconst C dX5_readsMilk_20 ?_
    refine v_cV_v C (As := [.int (iI (0))]) (rest := []) (c_X5_takes l D yc t1 t2 a A g 0 Dr (sk (fun x9 => g 5 (60 * t + x9)) (g 4 t) pl) wl (Or.inr rfl) (by omega)) (cwV 1 C.hts gX5_readsMilk_X5_takes rfl rfl rfl (by decide +kernel) ⟨by decide, by decide⟩) (fun H hP => va_recv C.hK hP (ci := 5) (q0 := (0 : Int).toNat) rfl (wo_is (by omega) (by omega) ct_mod)) rfl rfl (Nat.le_of_ble_eq_true rfl) dX5_readsMilk_21 ?_
    intro g9 h9
    rw [h9]
    clear h9 g9
    try dsimp only
    refine v_g (g' := (pS g Dr (sk (fun x9 => g 5 (60 * t + x9)) (g 4 t) pl) 0)) (by first | rw [an_11] | rw [an_10, Int.add_zero]) ?_
    refine v_iconst C dX5_readsMilk_24 ?_
    refine v_istore_n (lv' := [(2, .int (iI (1))), (0, .ref (a (0))), (1, .int (iI (t)))]) C dX5_readsMilk_25 (by decide) rfl ?_
    refine v_aload_n C 1 dX5_readsMilk_26 rfl ?_
    refine v_getf C (by omega) (by omega) ct_mod rfl 16 (by decide) wf90 hinX5 rfl dX5_readsMilk_27 ?_
    refine v_st (st' := [.int (iI (0))]) (by rw [pS_w]) ?_
    refine v_if_eq (tgt := 125) C dX5_readsMilk_30 (by decide) (by decide) (fun _ => ?_) (fun h9 => absurd h9 (by decide))
    exact v_ret_v C rfl dX5_readsMilk_125 (by first | (by have hz := it_n (B := (fun x9 => g 5 (60 * t + x9))) (L := (g 4 t)) (c := 109) (lo := 48) (hi := 57) (bs := 14) (cs := 2) (p := pl) (mx := 6) (D := Dr) c13; rw [hz.1, hz.2.1, hz.2.2]) | (have hz := it_y (B := (fun x9 => g 5 (60 * t + x9))) (L := (g 4 t)) (c := 109) (lo := 48) (hi := 57) (bs := 14) (cs := 2) (p := pl) (k := k) (mx := 6) (D := Dr) c13 (by omega) (by omega) (by rw [← hI26.2.2.2.2.2.2]; exact ff_y (by omega) (decide_eq_true (by omega))); rw [hz.1, hz.2.1, hz.2.2]) | (have hk0 : k = 0 := (by omega); have hz := it_0 (B := (fun x9 => g 5 (60 * t + x9))) (L := (g 4 t)) (c := 109) (lo := 48) (hi := 57) (bs := 14) (cs := 2) (p := pl) (mx := 6) (D := Dr) c13 (by omega) (by rw [← hI26.2.2.2.2.2.2, hk0, Int.add_zero]; exact ff_y (by omega) (decide_eq_true (by rw [hk0, Int.add_zero] at *; omega))); rw [hz.1, hz.2.1, hz.2.2, hk0, Int.add_zero]; rfl) | (have hk8 : k = 6 := (by omega); have hz := it_m (B := (fun x9 => g 5 (60 * t + x9))) (L := (g 4 t)) (c := 109) (lo := 48) (hi := 57) (bs := 14) (cs := 2) (p := pl) (mx := 6) (D := Dr) c13 (by rw [← hI26.2.2.2.2.2.2, ff_n (by omega) (fun h => absurd (of_decide_eq_true h) (by omega)), ff_e (by omega)]); rw [hz.1, hz.2.1, hz.2.2, hk8]; rfl))
  · skip
    refine v_iconst C dX5_readsMilk_16 ?_
    refine v_goto (tgt := 21) C dX5_readsMilk_17 (by decide) ?_
    refine v_cV_v C (As := [.int (iI (1))]) (rest := []) (c_X5_takes l D yc t1 t2 a A g 1 Dr (sk (fun x9 => g 5 (60 * t + x9)) (g 4 t) pl) wl (Or.inr rfl) (by omega)) (cwV 1 C.hts gX5_readsMilk_X5_takes rfl rfl rfl (by decide +kernel) ⟨by decide, by decide⟩) (fun H hP => va_recv C.hK hP (ci := 5) (q0 := (0 : Int).toNat) rfl (wo_is (by omega) (by omega) ct_mod)) rfl rfl (Nat.le_of_ble_eq_true rfl) dX5_readsMilk_21 ?_
    intro g9 h9
    rw [h9]
    clear h9 g9
    try dsimp only
    refine v_g (g' := (pS g Dr (sk (fun x9 => g 5 (60 * t + x9)) (g 4 t) pl) 0)) (by first | rw [an_11] | rw [an_10, Int.add_zero]) ?_
    refine v_iconst C dX5_readsMilk_24 ?_
    refine v_istore_n (lv' := [(2, .int (iI (1))), (0, .ref (a (0))), (1, .int (iI (t)))]) C dX5_readsMilk_25 (by decide) rfl ?_
    refine v_aload_n C 1 dX5_readsMilk_26 rfl ?_
    refine v_getf C (by omega) (by omega) ct_mod rfl 16 (by decide) wf90 hinX5 rfl dX5_readsMilk_27 ?_
    refine v_st (st' := [.int (iI (0))]) (by rw [pS_w]) ?_
    refine v_if_eq (tgt := 125) C dX5_readsMilk_30 (by decide) (by decide) (fun _ => ?_) (fun h9 => absurd h9 (by decide))
    exact v_ret_v C rfl dX5_readsMilk_125 (by first | (by have hz := it_n (B := (fun x9 => g 5 (60 * t + x9))) (L := (g 4 t)) (c := 109) (lo := 48) (hi := 57) (bs := 14) (cs := 2) (p := pl) (mx := 6) (D := Dr) c13; rw [hz.1, hz.2.1, hz.2.2]) | (have hz := it_y (B := (fun x9 => g 5 (60 * t + x9))) (L := (g 4 t)) (c := 109) (lo := 48) (hi := 57) (bs := 14) (cs := 2) (p := pl) (k := k) (mx := 6) (D := Dr) c13 (by omega) (by omega) (by rw [← hI26.2.2.2.2.2.2]; exact ff_y (by omega) (decide_eq_true (by omega))); rw [hz.1, hz.2.1, hz.2.2]) | (have hk0 : k = 0 := (by omega); have hz := it_0 (B := (fun x9 => g 5 (60 * t + x9))) (L := (g 4 t)) (c := 109) (lo := 48) (hi := 57) (bs := 14) (cs := 2) (p := pl) (mx := 6) (D := Dr) c13 (by omega) (by rw [← hI26.2.2.2.2.2.2, hk0, Int.add_zero]; exact ff_y (by omega) (decide_eq_true (by rw [hk0, Int.add_zero] at *; omega))); rw [hz.1, hz.2.1, hz.2.2, hk0, Int.add_zero]; rfl) | (have hk8 : k = 6 := (by omega); have hz := it_m (B := (fun x9 => g 5 (60 * t + x9))) (L := (g 4 t)) (c := 109) (lo := 48) (hi := 57) (bs := 14) (cs := 2) (p := pl) (mx := 6) (D := Dr) c13 (by rw [← hI26.2.2.2.2.2.2, ff_n (by omega) (fun h => absurd (of_decide_eq_true h) (by omega)), ff_e (by omega)]); rw [hz.1, hz.2.1, hz.2.2, hk8]; rfl))
