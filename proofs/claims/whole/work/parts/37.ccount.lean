set_option maxRecDepth 100000 in
set_option maxHeartbeats 4000000 in
theorem c_X4_count (l : Launch) (D : va_G) (yc : Nat → ClassId) (t1 t2 : Nat) (a : Int → Nat) (A : Nat → Prop) (g : Mm) (kk : Int) (F : Int → Int) (G : Int → Int → Int) (hkk : R32 kk) (HF : FR g 0 F) (HI : FI F) (HC : CI g) (HG : ∀ k, 0 ≤ k → k < 3 → FR g (1 + k) (G k) ∧ FI (G k)) : Ci l yX4_count wsX4_count { frames := 2, cells := 0, slots := 0, locals := 45 } D yc t1 t2 A (cw a yc) [.ref (a (0)), .int (iI (kk))] g (fun r9 g' => r9 = (iI (if kk = 0 then F 0 else if kk = 1 then F 1 else if kk = 2 then F 2 else if kk = 3 then F 3 else if kk = 4 then F 4 else if kk = 5 then F 5 + 10000 else if kk = 6 then sI (fun i => if F (20 + 3 * i) = 3 ∨ F (20 + 3 * i) = 5 then 1 else 0) (F 0) else if kk = 7 then sI (fun t => if g (6 + t) 1 < 0 then 0 else 1) 6 else if kk = 8 then sI (fun t => if g (6 + (6 + t)) 1 < 0 then 0 else 1) 4 else if kk = 9 then sI (fun k => if G k 0 = 0 then 0 else 1) 3 else -1)) ∧ g' = g) := by
  refine start_i (cc := cX4_count) (nL := 2) (ret := (some .int)) (own := RX4) (by decide +kernel) rfl rfl (Nat.le_of_ble_eq_true rfl) ?_
  intro p e s m9 below meth c9 C
  have wf21 : Cond.fieldLink RX4 21 (TX4 2).1 (TX4 2).2.1 (TX4 2).2.2.1 ∈ wsX4_count := by decide +kernel
  have hinX4 : ∀ w ∈ u_ws RX4 TX4 10, w ∈ wsX4_count := by decide +kernel
  have wf108 : Cond.fieldLink RX4 108 (TX1 7).1 (TX1 7).2.1 (TX1 7).2.2.1 ∈ wsX4_count := by decide +kernel
  have hinX1 : ∀ w ∈ u_ws RX1 TX1 11, w ∈ wsX4_count := by decide +kernel
  have wf145 : Cond.fieldLink RX4 145 (TX1 5).1 (TX1 5).2.1 (TX1 5).2.2.1 ∈ wsX4_count := by decide +kernel
  have wf195 : Cond.fieldLink RX4 195 (TX1 6).1 (TX1 6).2.1 (TX1 6).2.2.1 ∈ wsX4_count := by decide +kernel
  have wf158 : Cond.fieldLink RX4 158 (TX1 9).1 (TX1 9).2.1 (TX1 9).2.2.1 ∈ wsX4_count := by decide +kernel
  have wf151 : Cond.fieldLink RX4 151 (TX1 8).1 (TX1 8).2.1 (TX1 8).2.2.1 ∈ wsX4_count := by decide +kernel
  have wf171 : Cond.fieldLink RX4 171 (TX1 10).1 (TX1 10).2.1 (TX1 10).2.2.1 ∈ wsX4_count := by decide +kernel
  have wf11 : Cond.fieldLink RX4 11 (TX4 0).1 (TX4 0).2.1 (TX4 0).2.2.1 ∈ wsX4_count := by decide +kernel
  have wf15 : Cond.fieldLink RX4 15 (TX4 1).1 (TX4 1).2.1 (TX4 1).2.2.1 ∈ wsX4_count := by decide +kernel
  have hn := HI.n
  refine v_lv (lv' := [(0, .ref (a (0))), (1, .int (iI (kk)))]) rfl ?_
  refine v_iload_n C 1 dX4_count_0 rfl ?_
  rcases (show kk = 0 ∨ kk = 1 ∨ kk = 2 ∨ kk = 3 ∨ kk = 4 ∨ kk = 5 ∨ kk = 6 ∨ kk = 7 ∨ kk = 8 ∨ kk = 9 ∨ (kk < 0 ∨ 9 < kk) by omega) with c1 | c1 | c1 | c1 | c1 | c1 | c1 | c1 | c1 | c1 | c1
  · refine v_tin (off := 55) (tgt := 56) C 0 dX4_count_1 c1 (by decide) (by decide) (by decide) rfl (by decide) ?_
    refine v_aload_n C 0 dX4_count_56 rfl ?_
    refine v_getf C (by omega) (by omega) ct_cow rfl 2 (by decide) wf21 hinX4 rfl dX4_count_57 ?_
    refine v_st (st' := [.ref (a (26 + 0))]) rfl ?_
    refine v_getf C (by omega) (by omega) (ct_farm (by omega) (by omega)) rfl 7 (by decide) wf108 hinX1 rfl dX4_count_60 ?_
    refine v_st (st' := [.int (iI (F 0))]) (by rw [HF.bc]) ?_
    exact v_ret_i C rfl dX4_count_63 ⟨(by repeat (first | rfl | rw [if_pos (by omega)] | rw [if_neg (by omega)])), rfl⟩
  · refine v_tin (off := 63) (tgt := 64) C 1 dX4_count_1 c1 (by decide) (by decide) (by decide) rfl (by decide) ?_
    refine v_aload_n C 0 dX4_count_64 rfl ?_
    refine v_getf C (by omega) (by omega) ct_cow rfl 2 (by decide) wf21 hinX4 rfl dX4_count_65 ?_
    refine v_st (st' := [.ref (a (26 + 0))]) rfl ?_
    refine v_getf C (by omega) (by omega) (ct_farm (by omega) (by omega)) rfl 5 (by decide) wf145 hinX1 rfl dX4_count_68 ?_
    refine v_st (st' := [.int (iI (F 1))]) (by rw [HF.tc]) ?_
    exact v_ret_i C rfl dX4_count_71 ⟨(by repeat (first | rfl | rw [if_pos (by omega)] | rw [if_neg (by omega)])), rfl⟩
  · refine v_tin (off := 71) (tgt := 72) C 2 dX4_count_1 c1 (by decide) (by decide) (by decide) rfl (by decide) ?_
    refine v_aload_n C 0 dX4_count_72 rfl ?_
    refine v_getf C (by omega) (by omega) ct_cow rfl 2 (by decide) wf21 hinX4 rfl dX4_count_73 ?_
    refine v_st (st' := [.ref (a (26 + 0))]) rfl ?_
    refine v_getf C (by omega) (by omega) (ct_farm (by omega) (by omega)) rfl 6 (by decide) wf195 hinX1 rfl dX4_count_76 ?_
    refine v_st (st' := [.int (iI (F 2))]) (by rw [HF.mc]) ?_
    exact v_ret_i C rfl dX4_count_79 ⟨(by repeat (first | rfl | rw [if_pos (by omega)] | rw [if_neg (by omega)])), rfl⟩
  · refine v_tin (off := 79) (tgt := 80) C 3 dX4_count_1 c1 (by decide) (by decide) (by decide) rfl (by decide) ?_
    refine v_aload_n C 0 dX4_count_80 rfl ?_
    refine v_getf C (by omega) (by omega) ct_cow rfl 2 (by decide) wf21 hinX4 rfl dX4_count_81 ?_
    refine v_st (st' := [.ref (a (26 + 0))]) rfl ?_
    refine v_getf C (by omega) (by omega) (ct_farm (by omega) (by omega)) rfl 9 (by decide) wf158 hinX1 rfl dX4_count_84 ?_
    refine v_st (st' := [.int (iI (F 3))]) (by rw [HF.td]) ?_
    exact v_ret_i C rfl dX4_count_87 ⟨(by repeat (first | rfl | rw [if_pos (by omega)] | rw [if_neg (by omega)])), rfl⟩
  · refine v_tin (off := 87) (tgt := 88) C 4 dX4_count_1 c1 (by decide) (by decide) (by decide) rfl (by decide) ?_
    refine v_aload_n C 0 dX4_count_88 rfl ?_
    refine v_getf C (by omega) (by omega) ct_cow rfl 2 (by decide) wf21 hinX4 rfl dX4_count_89 ?_
    refine v_st (st' := [.ref (a (26 + 0))]) rfl ?_
    refine v_getf C (by omega) (by omega) (ct_farm (by omega) (by omega)) rfl 8 (by decide) wf151 hinX1 rfl dX4_count_92 ?_
    refine v_st (st' := [.int (iI (F 4))]) (by rw [HF.dc]) ?_
    exact v_ret_i C rfl dX4_count_95 ⟨(by repeat (first | rfl | rw [if_pos (by omega)] | rw [if_neg (by omega)])), rfl⟩
  · refine v_tin (off := 95) (tgt := 96) C 5 dX4_count_1 c1 (by decide) (by decide) (by decide) rfl (by decide) ?_
    refine v_aload_n C 0 dX4_count_96 rfl ?_
    refine v_getf C (by omega) (by omega) ct_cow rfl 2 (by decide) wf21 hinX4 rfl dX4_count_97 ?_
    refine v_st (st' := [.ref (a (26 + 0))]) rfl ?_
    refine v_getf C (by omega) (by omega) (ct_farm (by omega) (by omega)) rfl 10 (by decide) wf171 hinX1 rfl dX4_count_100 ?_
    refine v_st (st' := [.int (iI (F 5))]) (by rw [HF.pd]) ?_
    refine v_sipush C dX4_count_103 (by decide) ?_
    refine v_iadd C dX4_count_106 ?_
    exact v_ret_i C rfl dX4_count_107 ⟨(by repeat (first | rfl | rw [if_pos (by omega)] | rw [if_neg (by omega)])), rfl⟩
  · refine v_tin (off := 107) (tgt := 108) C 6 dX4_count_1 c1 (by decide) (by decide) (by decide) rfl (by decide) ?_
    refine v_aload_n C 0 dX4_count_108 rfl ?_
    refine v_getf C (by omega) (by omega) ct_cow rfl 2 (by decide) wf21 hinX4 rfl dX4_count_109 ?_
    refine v_st (st' := [.ref (a (26 + 0))]) rfl ?_
    refine v_cV_i C (As := []) (rest := []) (c_X1_bulls l D yc t1 t2 a A g 0 F (by omega) HF HI) (cwV 0 C.hts gX4_count_X1_bulls rfl rfl rfl (by decide +kernel) ⟨by decide, by decide⟩) (fun H hP => va_recv C.hK hP (ci := 1) (q0 := (26 + 0 : Int).toNat) rfl (wo_is (by omega) (by omega) (ct_farm (by omega) (by omega)))) rfl rfl (Nat.le_of_ble_eq_true rfl) dX4_count_112 ?_
    intro r9 g9 h9
    rw [h9.1, h9.2]
    clear h9 g9 r9
    try dsimp only
    exact v_ret_i C rfl dX4_count_115 ⟨(by repeat (first | rfl | rw [if_pos (by omega)] | rw [if_neg (by omega)])), rfl⟩
  · refine v_tin (off := 115) (tgt := 116) C 7 dX4_count_1 c1 (by decide) (by decide) (by decide) rfl (by decide) ?_
    refine v_aload_n C 0 dX4_count_116 rfl ?_
    refine v_getf C (by omega) (by omega) ct_cow rfl 0 (by decide) wf11 hinX4 rfl dX4_count_117 ?_
    refine v_cS_i C (As := [.ref (a (1))]) (rest := []) (c_X4_howManyThere_r l D yc t1 t2 a A g HC) (va_cwS 1 C.hts gX4_count_X4_howManyThere rfl rfl rfl (by decide +kernel) ⟨by decide, by decide⟩) rfl rfl (Nat.le_of_ble_eq_true rfl) dX4_count_120 ?_
    intro r9 g9 h9
    rw [h9.1, h9.2]
    clear h9 g9 r9
    try dsimp only
    exact v_ret_i C rfl dX4_count_123 ⟨(by repeat (first | rfl | rw [if_pos (by omega)] | rw [if_neg (by omega)])), rfl⟩
  · refine v_tin (off := 123) (tgt := 124) C 8 dX4_count_1 c1 (by decide) (by decide) (by decide) rfl (by decide) ?_
    refine v_aload_n C 0 dX4_count_124 rfl ?_
    refine v_getf C (by omega) (by omega) ct_cow rfl 1 (by decide) wf15 hinX4 rfl dX4_count_125 ?_
    refine v_cS_i C (As := [.ref (a (2))]) (rest := []) (c_X4_howManyThere_t l D yc t1 t2 a A g HC) (va_cwS 1 C.hts gX4_count_X4_howManyThere rfl rfl rfl (by decide +kernel) ⟨by decide, by decide⟩) rfl rfl (Nat.le_of_ble_eq_true rfl) dX4_count_128 ?_
    intro r9 g9 h9
    rw [h9.1, h9.2]
    clear h9 g9 r9
    try dsimp only
    exact v_ret_i C rfl dX4_count_131 ⟨(by repeat (first | rfl | rw [if_pos (by omega)] | rw [if_neg (by omega)])), rfl⟩
  · refine v_tin (off := 131) (tgt := 132) C 9 dX4_count_1 c1 (by decide) (by decide) (by decide) rfl (by decide) ?_
    refine v_aload_n C 0 dX4_count_132 rfl ?_
    refine v_cV_i C (As := []) (rest := []) (c_X4_howManyKept l D yc t1 t2 a A g G HG) (cwV 0 C.hts gX4_count_X4_howManyKept rfl rfl rfl (by decide +kernel) ⟨by decide, by decide⟩) (fun H hP => va_recv C.hK hP (ci := 4) (q0 := (0 : Int).toNat) rfl (wo_is (by omega) (by omega) ct_cow)) rfl rfl (Nat.le_of_ble_eq_true rfl) dX4_count_133 ?_
    intro r9 g9 h9
    rw [h9.1, h9.2]
    clear h9 g9 r9
    try dsimp only
    exact v_ret_i C rfl dX4_count_136 ⟨(by repeat (first | rfl | rw [if_pos (by omega)] | rw [if_neg (by omega)])), rfl⟩
  · refine v_tout (tgt := 137) C dX4_count_1 (by omega) c1 (by decide) ?_
    refine v_iconst C dX4_count_137 ?_
    exact v_ret_i C rfl dX4_count_138 ⟨(by repeat (first | rfl | rw [if_pos (by omega)] | rw [if_neg (by omega)])), rfl⟩
