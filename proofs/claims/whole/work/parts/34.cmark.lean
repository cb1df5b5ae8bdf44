set_option maxRecDepth 100000 in
set_option maxHeartbeats 4000000 in
theorem c_X4_mark (l : Launch) (D : va_G) (yc : Nat → ClassId) (t1 t2 : Nat) (a : Int → Nat) (A : Nat → Prop) (g : Mm) (ix k : Int) (F : Int → Int) (hix : R32 ix) (hk : R32 k) (HF : FR g 0 F) (HI : FI F) : Ci l yX4_mark wsX4_mark { frames := 2, cells := 0, slots := 0, locals := 46 } D yc t1 t2 A (cw a yc) [.ref (a (0)), .int (iI (ix)), .int (iI (k))] g (fun r9 g' => r9 = (iI (if (ix < 0 ∨ F 0 ≤ ix) ∨ (k < 1 ∨ 5 < k) then -1 else if ¬ (k = F (20 + 3 * ix) ∨ k = 0 ∨ (F (20 + 3 * ix) = 4 ∧ k = 2) ∨ (F (20 + 3 * ix) = 5 ∧ k = 3)) then -3 else if k = 1 then 2 * F (20 + 3 * ix + 1) - vT F ix 0 else if k = 2 then vT F ix 1 - vT F ix 0 else if k = 3 then vT F ix 0 - vT F ix 1 else if k = 4 then sI (fun i => if F (20 + 3 * i + 2) = F (20 + 3 * ix + 2) ∧ (F (20 + 3 * i) = 2 ∨ F (20 + 3 * i) = 4) then 1 else 0) (F 0) - 1 else sI (fun i => if vT F i 0 < vT F ix 0 then 1 else 0) (F 0))) ∧ g' = (if (ix < 0 ∨ F 0 ≤ ix) ∨ (k < 1 ∨ 5 < k) then g else if ¬ (k = F (20 + 3 * ix) ∨ k = 0 ∨ (F (20 + 3 * ix) = 4 ∧ k = 2) ∨ (F (20 + 3 * ix) = 5 ∧ k = 3)) then fnC g 3 else g)) := by
  refine start_i (cc := cX4_mark) (nL := 4) (ret := (some .int)) (own := RX4) (by decide +kernel) rfl rfl (Nat.le_of_ble_eq_true rfl) ?_
  intro p e s m9 below meth c9 C
  have wf21 : Cond.fieldLink RX4 21 (TX4 2).1 (TX4 2).2.1 (TX4 2).2.2.1 ∈ wsX4_mark := by decide +kernel
  have hinX4 : ∀ w ∈ u_ws RX4 TX4 10, w ∈ wsX4_mark := by decide +kernel
  have wf108 : Cond.fieldLink RX4 108 (TX1 7).1 (TX1 7).2.1 (TX1 7).2.2.1 ∈ wsX4_mark := by decide +kernel
  have hinX1 : ∀ w ∈ u_ws RX1 TX1 11, w ∈ wsX4_mark := by decide +kernel
  have wf111 : Cond.fieldLink RX4 111 (TX1 2).1 (TX1 2).2.1 (TX1 2).2.2.1 ∈ wsX4_mark := by decide +kernel
  have wf127 : Cond.fieldLink RX4 127 (TX0 1).1 (TX0 1).2.1 (TX0 1).2.2.1 ∈ wsX4_mark := by decide +kernel
  have hinX0 : ∀ w ∈ u_ws RX0 TX0 5, w ∈ wsX4_mark := by decide +kernel
  have wf130 : Cond.fieldLink RX4 130 (TX0 3).1 (TX0 3).2.1 (TX0 3).2.2.1 ∈ wsX4_mark := by decide +kernel
  have wf133 : Cond.fieldLink RX4 133 (TX0 4).1 (TX0 4).2.1 (TX0 4).2.2.1 ∈ wsX4_mark := by decide +kernel
  have wf136 : Cond.fieldLink RX4 136 (TX0 2).1 (TX0 2).2.1 (TX0 2).2.2.1 ∈ wsX4_mark := by decide +kernel
  have hn := HI.n
  refine v_lv (lv' := [(0, .ref (a (0))), (1, .int (iI (ix))), (2, .int (iI (k)))]) rfl ?_
  refine v_iload_n C 1 dX4_mark_0 rfl ?_
  refine v_aload_n C 0 dX4_mark_1 rfl ?_
  refine v_getf C (by omega) (by omega) ct_cow rfl 2 (by decide) wf21 hinX4 rfl dX4_mark_2 ?_
  refine v_st (st' := [.ref (a (26 + 0)), .int (iI (ix))]) rfl ?_
  refine v_getf C (by omega) (by omega) (ct_farm (by omega) (by omega)) rfl 7 (by decide) wf108 hinX1 rfl dX4_mark_5 ?_
  refine v_st (st' := [.int (iI (F 0)), .int (iI (ix))]) (by rw [HF.bc]) ?_
  refine v_cS_i C (As := [.int (iI (ix)), .int (iI (F 0))]) (rest := []) (c_X4_isNone l D yc t1 t2 A (cw a yc) g ix (F 0) (by omega) (by omega)) (va_cwS 2 C.hts gX4_mark_X4_isNone rfl rfl rfl (by decide +kernel) ⟨by decide, by decide⟩) rfl rfl (Nat.le_of_ble_eq_true rfl) dX4_mark_8 ?_
  intro r9 g9 h9
  rw [h9.1, h9.2]
  clear h9 g9 r9
  try dsimp only
  refine v_ifb_ne (tgt := 23) C dX4_mark_11 (by decide) (fun c11 => ?_) (fun c11 => ?_)
  · skip
    refine v_iconst C dX4_mark_23 ?_
    exact v_ret_i C rfl dX4_mark_24 ⟨(by repeat (first | rfl | rw [if_pos (by omega)] | rw [if_neg (by omega)])), (by repeat (first | rfl | rw [if_pos (by omega)] | rw [if_neg (by omega)]))⟩
  · skip
    refine v_iload_n C 2 dX4_mark_14 rfl ?_
    refine v_iconst C dX4_mark_15 ?_
    refine v_iconst C dX4_mark_16 ?_
    refine v_cS_i C (As := [.int (iI (k)), .int (iI (1)), .int (iI (5))]) (rest := []) (c_X4_outside l D yc t1 t2 A (cw a yc) g k 1 5 (by omega) (by omega) (by omega)) (va_cwS 3 C.hts gX4_mark_X4_outside rfl rfl rfl (by decide +kernel) ⟨by decide, by decide⟩) rfl rfl (Nat.le_of_ble_eq_true rfl) dX4_mark_17 ?_
    intro r9 g9 h9
    rw [h9.1, h9.2]
    clear h9 g9 r9
    try dsimp only
    refine v_ifb_eq (tgt := 25) C dX4_mark_20 (by decide) (fun c20 => ?_) (fun c20 => ?_)
    · skip
      have hb := HI.b (i := ix) (by omega) (by omega)
      have hv0 := vT_bd HI (i := ix) (by omega) (by omega) (q := 0) (by omega)
      refine v_aload_n C 0 dX4_mark_25 rfl ?_
      refine v_getf C (by omega) (by omega) ct_cow rfl 2 (by decide) wf21 hinX4 rfl dX4_mark_26 ?_
      refine v_st (st' := [.ref (a (26 + 0))]) rfl ?_
      refine v_getf C (by omega) (by omega) (ct_farm (by omega) (by omega)) rfl 2 (by decide) wf111 hinX1 rfl dX4_mark_29 ?_
      refine v_st (st' := [.ref (a (41 + 0))]) rfl ?_
      refine v_iload_n C 1 dX4_mark_32 rfl ?_
      refine v_aaload (f := fun j => 56 + 6 * 0 + j) C (by omega) (by omega) 2 rfl (ct_beastsA (by omega) (by omega)) (by omega) (by omega) (by decide) dX4_mark_33 ?_
      refine v_astore_n (lv' := [(3, .ref (a (56 + 6 * 0 + ix))), (0, .ref (a (0))), (1, .int (iI (ix))), (2, .int (iI (k)))]) C dX4_mark_34 (by decide) rfl ?_
      refine v_aload_n C 0 dX4_mark_35 rfl ?_
      refine v_iload_n C 3 dX4_mark_36 rfl ?_
      refine v_cV_i C (As := [.int (iI (k))]) (rest := []) (c_X0_isOf l D yc t1 t2 a A g 0 ix k (F (20 + 3 * ix)) (by omega) (by omega) (HF.bs (i := ix) (by omega) (by omega)).1 (by omega) (by omega)) (cwV 1 C.hts gX4_mark_X0_isOf rfl rfl rfl (by decide +kernel) ⟨by decide, by decide⟩) (fun H hP => va_recv C.hK hP (ci := 0) (q0 := (56 + 6 * 0 + ix : Int).toNat) rfl (wo_is (by omega) (by omega) (ct_beast (by omega) (by omega) (by omega) (by omega)))) rfl rfl (Nat.le_of_ble_eq_true rfl) dX4_mark_37 ?_
      intro r9 g9 h9
      rw [h9.1, h9.2]
      clear h9 g9 r9
      try dsimp only
      refine v_ifb_ne (tgt := 49) C dX4_mark_40 (by decide) (fun c40 => ?_) (fun c40 => ?_)
      · skip
        refine v_iload_n C 3 dX4_mark_49 rfl ?_
        rcases (show k = 1 ∨ k = 2 ∨ k = 3 ∨ k = 4 ∨ (k < 1 ∨ 4 < k) by omega) with c50 | c50 | c50 | c50 | c50
        · refine v_tin (off := 30) (tgt := 80) C 1 dX4_mark_50 c50 (by decide) (by decide) (by decide) rfl (by decide) ?_
          refine v_iconst C dX4_mark_80 ?_
          refine v_aload_n C 0 dX4_mark_81 rfl ?_
          refine v_getf C (by omega) (by omega) (ct_beast (by omega) (by omega) (by omega) (by omega)) rfl 1 (by decide) wf127 hinX0 rfl dX4_mark_82 ?_
          refine v_st (st' := [.int (iI (F (20 + 3 * ix + 1))), .int (iI (2))]) (by rw [(HF.bs (i := ix) (by omega) (by omega)).2.1]) ?_
          refine v_imul C dX4_mark_85 ?_
          refine v_aload_n C 0 dX4_mark_86 rfl ?_
          refine v_getf C (by omega) (by omega) (ct_beast (by omega) (by omega) (by omega) (by omega)) rfl 3 (by decide) wf130 hinX0 rfl dX4_mark_87 ?_
          refine v_st (st' := [.int (iI (vT F ix 0)), .int (iI (2 * (F (20 + 3 * ix + 1))))]) (by rw [(HF.bs (i := ix) (by omega) (by omega)).2.2.2.1]) ?_
          refine v_isub C dX4_mark_90 ?_
          exact v_ret_i C rfl dX4_mark_91 ⟨(by repeat (first | rfl | rw [if_pos (by omega)] | rw [if_neg (by omega)])), (by repeat (first | rfl | rw [if_pos (by omega)] | rw [if_neg (by omega)]))⟩
        · refine v_tin (off := 42) (tgt := 92) C 2 dX4_mark_50 c50 (by decide) (by decide) (by decide) rfl (by decide) ?_
          refine v_aload_n C 0 dX4_mark_92 rfl ?_
          refine v_getf C (by omega) (by omega) (ct_beast (by omega) (by omega) (by omega) (by omega)) rfl 4 (by decide) wf133 hinX0 rfl dX4_mark_93 ?_
          refine v_st (st' := [.int (iI (vT F ix 1))]) (by rw [(HF.bs (i := ix) (by omega) (by omega)).2.2.2.2]) ?_
          refine v_aload_n C 0 dX4_mark_96 rfl ?_
          refine v_getf C (by omega) (by omega) (ct_beast (by omega) (by omega) (by omega) (by omega)) rfl 3 (by decide) wf130 hinX0 rfl dX4_mark_97 ?_
          refine v_st (st' := [.int (iI (vT F ix 0)), .int (iI (vT F ix 1))]) (by rw [(HF.bs (i := ix) (by omega) (by omega)).2.2.2.1]) ?_
          refine v_isub C dX4_mark_100 ?_
          exact v_ret_i C rfl dX4_mark_101 ⟨(by repeat (first | rfl | rw [if_pos (by omega)] | rw [if_neg (by omega)])), (by repeat (first | rfl | rw [if_pos (by omega)] | rw [if_neg (by omega)]))⟩
        · refine v_tin (off := 52) (tgt := 102) C 3 dX4_mark_50 c50 (by decide) (by decide) (by decide) rfl (by decide) ?_
          refine v_aload_n C 0 dX4_mark_102 rfl ?_
          refine v_getf C (by omega) (by omega) (ct_beast (by omega) (by omega) (by omega) (by omega)) rfl 3 (by decide) wf130 hinX0 rfl dX4_mark_103 ?_
          refine v_st (st' := [.int (iI (vT F ix 0))]) (by rw [(HF.bs (i := ix) (by omega) (by omega)).2.2.2.1]) ?_
          refine v_aload_n C 0 dX4_mark_106 rfl ?_
          refine v_getf C (by omega) (by omega) (ct_beast (by omega) (by omega) (by omega) (by omega)) rfl 4 (by decide) wf133 hinX0 rfl dX4_mark_107 ?_
          refine v_st (st' := [.int (iI (vT F ix 1)), .int (iI (vT F ix 0))]) (by rw [(HF.bs (i := ix) (by omega) (by omega)).2.2.2.2]) ?_
          refine v_isub C dX4_mark_110 ?_
          exact v_ret_i C rfl dX4_mark_111 ⟨(by repeat (first | rfl | rw [if_pos (by omega)] | rw [if_neg (by omega)])), (by repeat (first | rfl | rw [if_pos (by omega)] | rw [if_neg (by omega)]))⟩
        · refine v_tin (off := 62) (tgt := 112) C 4 dX4_mark_50 c50 (by decide) (by decide) (by decide) rfl (by decide) ?_
          refine v_aload_n C 1 dX4_mark_112 rfl ?_
          refine v_getf C (by omega) (by omega) ct_cow rfl 2 (by decide) wf21 hinX4 rfl dX4_mark_113 ?_
          refine v_st (st' := [.ref (a (26 + 0))]) rfl ?_
          refine v_aload_n C 0 dX4_mark_116 rfl ?_
          refine v_getf C (by omega) (by omega) (ct_beast (by omega) (by omega) (by omega) (by omega)) rfl 2 (by decide) wf136 hinX0 rfl dX4_mark_117 ?_
          refine v_st (st' := [.int (iI (F (20 + 3 * ix + 2))), .ref (a (26 + 0))]) (by rw [(HF.bs (i := ix) (by omega) (by omega)).2.2.1]) ?_
          refine v_cV_i C (As := [.int (iI (F (20 + 3 * ix + 2)))]) (rest := []) (c_X1_youngOnesOf l D yc t1 t2 a A g 0 (F (20 + 3 * ix + 2)) F (by omega) HF HI (by omega)) (cwV 1 C.hts gX4_mark_X1_youngOnesOf rfl rfl rfl (by decide +kernel) ⟨by decide, by decide⟩) (fun H hP => va_recv C.hK hP (ci := 1) (q0 := (26 + 0 : Int).toNat) rfl (wo_is (by omega) (by omega) (ct_farm (by omega) (by omega)))) rfl rfl (Nat.le_of_ble_eq_true rfl) dX4_mark_120 ?_
          intro r9 g9 h9
          rw [h9.1, h9.2]
          clear h9 g9 r9
          try dsimp only
          refine v_iconst C dX4_mark_123 ?_
          refine v_isub C dX4_mark_124 ?_
          exact v_ret_i C rfl dX4_mark_125 ⟨(by repeat (first | rfl | rw [if_pos (by omega)] | rw [if_neg (by omega)])), (by repeat (first | rfl | rw [if_pos (by omega)] | rw [if_neg (by omega)]))⟩
        · refine v_tout (tgt := 126) C dX4_mark_50 (by omega) c50 (by decide) ?_
          refine v_aload_n C 1 dX4_mark_126 rfl ?_
          refine v_getf C (by omega) (by omega) ct_cow rfl 2 (by decide) wf21 hinX4 rfl dX4_mark_127 ?_
          refine v_st (st' := [.ref (a (26 + 0))]) rfl ?_
          refine v_aload_n C 0 dX4_mark_130 rfl ?_
          refine v_getf C (by omega) (by omega) (ct_beast (by omega) (by omega) (by omega) (by omega)) rfl 3 (by decide) wf130 hinX0 rfl dX4_mark_131 ?_
          refine v_st (st' := [.int (iI (vT F ix 0)), .ref (a (26 + 0))]) (by rw [(HF.bs (i := ix) (by omega) (by omega)).2.2.2.1]) ?_
          refine v_cV_i C (As := [.int (iI (vT F ix 0))]) (rest := []) (c_X1_howManyBelow l D yc t1 t2 a A g 0 (vT F ix 0) F (by omega) HF HI (by omega)) (cwV 1 C.hts gX4_mark_X1_howManyBelow rfl rfl rfl (by decide +kernel) ⟨by decide, by decide⟩) (fun H hP => va_recv C.hK hP (ci := 1) (q0 := (26 + 0 : Int).toNat) rfl (wo_is (by omega) (by omega) (ct_farm (by omega) (by omega)))) rfl rfl (Nat.le_of_ble_eq_true rfl) dX4_mark_134 ?_
          intro r9 g9 h9
          rw [h9.1, h9.2]
          clear h9 g9 r9
          try dsimp only
          exact v_ret_i C rfl dX4_mark_137 ⟨(by repeat (first | rfl | rw [if_pos (by omega)] | rw [if_neg (by omega)])), (by repeat (first | rfl | rw [if_pos (by omega)] | rw [if_neg (by omega)]))⟩
      · skip
        refine v_aload_n C 1 dX4_mark_43 rfl ?_
        refine v_iconst C dX4_mark_44 ?_
        refine v_cV_i C (As := [.int (iI (3))]) (rest := []) (c_X4_refuse l D yc t1 t2 a A g 3 (by omega)) (cwV 1 C.hts gX4_mark_X4_refuse rfl rfl rfl (by decide +kernel) ⟨by decide, by decide⟩) (fun H hP => va_recv C.hK hP (ci := 4) (q0 := (0 : Int).toNat) rfl (wo_is (by omega) (by omega) ct_cow)) rfl rfl (Nat.le_of_ble_eq_true rfl) dX4_mark_45 ?_
        intro r9 g9 h9
        rw [h9.1, h9.2]
        clear h9 g9 r9
        try dsimp only
        exact v_ret_i C rfl dX4_mark_48 ⟨(by repeat (first | rfl | rw [if_pos (by omega)] | rw [if_neg (by omega)])), (by repeat (first | rfl | rw [if_pos (by omega)] | rw [if_neg (by omega)]))⟩
    · skip
      refine v_iconst C dX4_mark_23 ?_
      exact v_ret_i C rfl dX4_mark_24 ⟨(by repeat (first | rfl | rw [if_pos (by omega)] | rw [if_neg (by omega)])), (by repeat (first | rfl | rw [if_pos (by omega)] | rw [if_neg (by omega)]))⟩

set_option maxRecDepth 100000 in
set_option maxHeartbeats 4000000 in
theorem c_X4_round (l : Launch) (D : va_G) (yc : Nat → ClassId) (t1 t2 : Nat) (a : Int → Nat) (A : Nat → Prop) (g : Mm) (F : Int → Int) (HF : FR g 0 F) (HI : FI F) (h1 : F 0 = 0 → F 1 = 0) : Ci l yX4_round wsX4_round { frames := 0, cells := 0, slots := 0, locals := 0 } D yc t1 t2 A (cw a yc) [.ref (a (0))] g (fun r9 g' => r9 = (iI (if F 0 = 0 then -4 else rnd (F 1) (F 2))) ∧ g' = g) := by
  refine start_i (cc := cX4_round) (nL := 2) (ret := (some .int)) (own := RX4) (by decide +kernel) rfl rfl (Nat.le_of_ble_eq_true rfl) ?_
  intro p e s m9 below meth c9 C
  have wf21 : Cond.fieldLink RX4 21 (TX4 2).1 (TX4 2).2.1 (TX4 2).2.2.1 ∈ wsX4_round := by decide +kernel
  have hinX4 : ∀ w ∈ u_ws RX4 TX4 10, w ∈ wsX4_round := by decide +kernel
  have wf145 : Cond.fieldLink RX4 145 (TX1 5).1 (TX1 5).2.1 (TX1 5).2.2.1 ∈ wsX4_round := by decide +kernel
  have hinX1 : ∀ w ∈ u_ws RX1 TX1 11, w ∈ wsX4_round := by decide +kernel
  have wf195 : Cond.fieldLink RX4 195 (TX1 6).1 (TX1 6).2.1 (TX1 6).2.2.1 ∈ wsX4_round := by decide +kernel
  have hn := HI.n
  refine v_lv (lv' := [(0, .ref (a (0)))]) rfl ?_
  refine v_aload_n C 0 dX4_round_0 rfl ?_
  refine v_getf C (by omega) (by omega) ct_cow rfl 2 (by decide) wf21 hinX4 rfl dX4_round_1 ?_
  refine v_st (st' := [.ref (a (26 + 0))]) rfl ?_
  refine v_getf C (by omega) (by omega) (ct_farm (by omega) (by omega)) rfl 5 (by decide) wf145 hinX1 rfl dX4_round_4 ?_
  refine v_st (st' := [.int (iI (F 1))]) (by rw [HF.tc]) ?_
  refine v_iconst C dX4_round_7 ?_
  refine v_icmp_lt (tgt := 22) C dX4_round_8 (by decide) (by omega) (by omega) (fun c8 => ?_) (fun c8 => ?_)
  · skip
    refine v_bipush C dX4_round_22 (by decide) ?_
    exact v_ret_i C rfl dX4_round_24 ⟨(by repeat (first | rfl | rw [if_pos (by omega)] | rw [if_neg (by omega)])), rfl⟩
  · skip
    refine v_aload_n C 0 dX4_round_11 rfl ?_
    refine v_getf C (by omega) (by omega) ct_cow rfl 2 (by decide) wf21 hinX4 rfl dX4_round_12 ?_
    refine v_st (st' := [.ref (a (26 + 0))]) rfl ?_
    refine v_getf C (by omega) (by omega) (ct_farm (by omega) (by omega)) rfl 6 (by decide) wf195 hinX1 rfl dX4_round_15 ?_
    refine v_st (st' := [.int (iI (F 2))]) (by rw [HF.mc]) ?_
    refine v_iconst C dX4_round_18 ?_
    refine v_icmp_ge (tgt := 25) C dX4_round_19 (by decide) (by omega) (by omega) (fun c19 => ?_) (fun c19 => ?_)
    · skip
      refine v_iconst C dX4_round_25 ?_
      refine v_istore_n (lv' := [(1, .int (iI (1))), (0, .ref (a (0)))]) C dX4_round_26 (by decide) rfl ?_
      refine v_lv (congrArg (fun x9 => ([(1, .int (iI x9)), (0, .ref (a (0)))] : List (Nat × Value))) (show (1) = (((1 : Int))) by first | rfl | omega | (simp; done))) ?_
      refine v_loop1 (fun (x : Int) => (1000 - x).toNat) (fun (x : Int) => 1 ≤ x ∧ x ≤ rnd (F 1) (F 2)) (fun (x : Int) => [(1, .int (iI (x))), (0, .ref (a (0)))]) (fun (x : Int) => g) ?_ 1 (by have hr := rnd_p (T := F 1) (M := F 2) (by omega) (by omega) (by omega) (by omega); omega)
      intro x hI27 ih27
      try dsimp only at ih27 ⊢
      have hr := rnd_p (T := F 1) (M := F 2) (by omega) (by omega) (by omega) (by omega)
      have hm1 := emd (d := x) (n := F 1) (by omega)
      have hm2 := emd (d := x) (n := F 2) (by omega)
      have hne : ¬ (x % F 1 = 0 ∧ x % F 2 = 0) → ¬ x = rnd (F 1) (F 2) := (fun z w => z (by rw [w]; exact hr.2.2))
      refine v_iload_n C 0 dX4_round_27 rfl ?_
      refine v_sipush C dX4_round_28 (by decide) ?_
      refine v_icmp_gt (tgt := 66) C dX4_round_31 (by decide) (by omega) (by omega) (fun c31 => ?_) (fun c31 => ?_)
      · skip
        refine v_bipush C dX4_round_66 (by decide) ?_
        exact v_ret_i C rfl dX4_round_68 ⟨(by exfalso; omega), rfl⟩
      · skip
        refine v_iload_n C 0 dX4_round_34 rfl ?_
        refine v_aload_n C 1 dX4_round_35 rfl ?_
        refine v_getf C (by omega) (by omega) ct_cow rfl 2 (by decide) wf21 hinX4 rfl dX4_round_36 ?_
        refine v_st (st' := [.ref (a (26 + 0)), .int (iI (x))]) rfl ?_
        refine v_getf C (by omega) (by omega) (ct_farm (by omega) (by omega)) rfl 5 (by decide) wf145 hinX1 rfl dX4_round_39 ?_
        refine v_st (st' := [.int (iI (F 1)), .int (iI (x))]) (by rw [HF.tc]) ?_
        refine v_irem C dX4_round_42 (by omega) (by omega) (by omega) (by omega) ?_
        refine v_if_ne (tgt := 60) C dX4_round_43 (by decide) (by omega) (fun c43 => ?_) (fun c43 => ?_)
        · skip
          refine v_iinc (z' := x + 1) (lv' := [(1, .int (iI (x + 1))), (0, .ref (a (0)))]) C 0 dX4_round_60 rfl (by omega) (by decide) rfl ?_
          refine v_goto (tgt := 27) C dX4_round_63 (by decide) ?_
          exact ih27 (x + 1) (by omega) (by omega)
        · skip
          refine v_iload_n C 0 dX4_round_46 rfl ?_
          refine v_aload_n C 1 dX4_round_47 rfl ?_
          refine v_getf C (by omega) (by omega) ct_cow rfl 2 (by decide) wf21 hinX4 rfl dX4_round_48 ?_
          refine v_st (st' := [.ref (a (26 + 0)), .int (iI (x))]) rfl ?_
          refine v_getf C (by omega) (by omega) (ct_farm (by omega) (by omega)) rfl 6 (by decide) wf195 hinX1 rfl dX4_round_51 ?_
          refine v_st (st' := [.int (iI (F 2)), .int (iI (x))]) (by rw [HF.mc]) ?_
          refine v_irem C dX4_round_54 (by omega) (by omega) (by omega) (by omega) ?_
          refine v_if_ne (tgt := 60) C dX4_round_55 (by decide) (by omega) (fun c55 => ?_) (fun c55 => ?_)
          · skip
            refine v_iinc (z' := x + 1) (lv' := [(1, .int (iI (x + 1))), (0, .ref (a (0)))]) C 0 dX4_round_60 rfl (by omega) (by decide) rfl ?_
            refine v_goto (tgt := 27) C dX4_round_63 (by decide) ?_
            exact ih27 (x + 1) (by omega) (by omega)
          · skip
            refine v_iload_n C 0 dX4_round_58 rfl ?_
            exact v_ret_i C rfl dX4_round_59 ⟨(by rw [if_neg (by omega)]; congr 1; have := rnd_l (T := F 1) (M := F 2) (n := x) (by omega) (by omega) (by omega) (by omega) (by omega) (by omega) c43 c55; omega), rfl⟩
    · skip
      refine v_bipush C dX4_round_22 (by decide) ?_
      exact v_ret_i C rfl dX4_round_24 ⟨(by repeat (first | rfl | rw [if_pos (by omega)] | rw [if_neg (by omega)])), rfl⟩

set_option maxRecDepth 100000 in
set_option maxHeartbeats 4000000 in
theorem c_X4_howManyKept (l : Launch) (D : va_G) (yc : Nat → ClassId) (t1 t2 : Nat) (a : Int → Nat) (A : Nat → Prop) (g : Mm) (G : Int → Int → Int) (HG : ∀ k, 0 ≤ k → k < 3 → FR g (1 + k) (G k) ∧ FI (G k)) : Ci l yX4_howManyKept wsX4_howManyKept { frames := 1, cells := 0, slots := 0, locals := 20 } D yc t1 t2 A (cw a yc) [.ref (a (0))] g (fun r9 g' => r9 = (iI (sI (fun k => if G k 0 = 0 then 0 else 1) 3)) ∧ g' = g) := by
  refine start_i (cc := cX4_howManyKept) (nL := 3) (ret := (some .int)) (own := RX4) (by decide +kernel) rfl rfl (Nat.le_of_ble_eq_true rfl) ?_
  intro p e s m9 below meth c9 C
  have wf25 : Cond.fieldLink RX4 25 (TX4 3).1 (TX4 3).2.1 (TX4 3).2.2.1 ∈ wsX4_howManyKept := by decide +kernel
  have hinX4 : ∀ w ∈ u_ws RX4 TX4 10, w ∈ wsX4_howManyKept := by decide +kernel
  refine v_lv (lv' := [(0, .ref (a (0)))]) rfl ?_
  refine v_iconst C dX4_howManyKept_0 ?_
  refine v_istore_n (lv' := [(1, .int (iI (0))), (0, .ref (a (0)))]) C dX4_howManyKept_1 (by decide) rfl ?_
  refine v_iconst C dX4_howManyKept_2 ?_
  refine v_istore_n (lv' := [(2, .int (iI (0))), (1, .int (iI (0))), (0, .ref (a (0)))]) C dX4_howManyKept_3 (by decide) rfl ?_
  refine v_lv (congrArg (fun x9 => ([(2, .int (iI x9)), (1, .int (iI (0))), (0, .ref (a (0)))] : List (Nat × Value))) (show (0) = (((0 : Int))) by first | rfl | omega | (simp; done))) ?_
  refine v_lv (congrArg (fun x9 => ([(2, .int (iI (((0 : Int))))), (1, .int (iI x9)), (0, .ref (a (0)))] : List (Nat × Value))) (show (0) = (sI (fun k => if G k 0 = 0 then 0 else 1) ((0 : Int))) by first | rfl | omega | (simp; done))) ?_
  refine v_loop1 (fun (y : Int) => (3 - y).toNat) (fun (y : Int) => 0 ≤ y ∧ y ≤ 3) (fun (y : Int) => [(2, .int (iI (y))), (1, .int (iI (sI (fun k => if G k 0 = 0 then 0 else 1) y))), (0, .ref (a (0)))]) (fun (y : Int) => g) ?_ 0 (by omega)
  intro y hI4 ih4
  try dsimp only at ih4 ⊢
  refine v_iload_n C 0 dX4_howManyKept_4 rfl ?_
  refine v_iconst C dX4_howManyKept_5 ?_
  refine v_icmp_ge (tgt := 30) C dX4_howManyKept_6 (by decide) (by omega) (by omega) (fun c6 => ?_) (fun c6 => ?_)
  · skip
    refine v_iload_n C 1 dX4_howManyKept_30 rfl ?_
    exact v_ret_i C rfl dX4_howManyKept_31 ⟨(by rw [show y = 3 by omega]), rfl⟩
  · skip
    refine v_aload_n C 2 dX4_howManyKept_9 rfl ?_
    refine v_getf C (by omega) (by omega) ct_cow rfl 3 (by decide) wf25 hinX4 rfl dX4_howManyKept_10 ?_
    refine v_iload_n C 0 dX4_howManyKept_13 rfl ?_
    refine v_aaload (f := fun j => 26 + (1 + j)) C (by omega) (by omega) 3 rfl ct_keptA (by omega) (by omega) (by decide) dX4_howManyKept_14 ?_
    refine v_cV_i C (As := []) (rest := []) (c_X1_isMissing l D yc t1 t2 a A g (1 + y) ((G y)) (by omega) (HG y (by omega) (by omega)).1 (HG y (by omega) (by omega)).2) (cwV 0 C.hts gX4_howManyKept_X1_isMissing rfl rfl rfl (by decide +kernel) ⟨by decide, by decide⟩) (fun H hP => va_recv C.hK hP (ci := 1) (q0 := (26 + (1 + y) : Int).toNat) rfl (wo_is (by omega) (by omega) (ct_farm (by omega) (by omega)))) rfl rfl (Nat.le_of_ble_eq_true rfl) dX4_howManyKept_15 ?_
    intro r9 g9 h9
    rw [h9.1, h9.2]
    clear h9 g9 r9
    try dsimp only
    refine v_ifb_ne (tgt := 24) C dX4_howManyKept_18 (by decide) (fun c18 => ?_) (fun c18 => ?_)
    · skip
      refine v_iinc (z' := y + 1) (lv' := [(2, .int (iI (y + 1))), (1, .int (iI (sI (fun k => if G k 0 = 0 then 0 else 1) y))), (0, .ref (a (0)))]) C 0 dX4_howManyKept_24 rfl (by omega) (by decide) rfl ?_
      refine v_goto (tgt := 4) C dX4_howManyKept_27 (by decide) ?_
      refine v_lv (congrArg (fun x9 => ([(2, .int (iI (y + 1))), (1, .int (iI x9)), (0, .ref (a (0)))] : List (Nat × Value))) (show (sI (fun k => if G k 0 = 0 then 0 else 1) y) = (sI (fun k => if G k 0 = 0 then 0 else 1) (y + 1)) by first | rfl | (rw [sI_s _ (by omega)]; (first | (rw [if_pos (by omega)]; omega) | (rw [if_neg (by omega)]))))) ?_
      exact ih4 (y + 1) (by omega) (by omega)
    · skip
      refine v_iinc (z' := sI (fun k => if G k 0 = 0 then 0 else 1) y + 1) (lv' := [(1, .int (iI (sI (fun k => if G k 0 = 0 then 0 else 1) y + 1))), (2, .int (iI (y))), (0, .ref (a (0)))]) C 1 dX4_howManyKept_21 rfl (by omega) (by decide) rfl ?_
      refine v_iinc (z' := y + 1) (lv' := [(2, .int (iI (y + 1))), (1, .int (iI (sI (fun k => if G k 0 = 0 then 0 else 1) y + 1))), (0, .ref (a (0)))]) C 1 dX4_howManyKept_24 rfl (by omega) (by decide) rfl ?_
      refine v_goto (tgt := 4) C dX4_howManyKept_27 (by decide) ?_
      refine v_lv (congrArg (fun x9 => ([(2, .int (iI (y + 1))), (1, .int (iI x9)), (0, .ref (a (0)))] : List (Nat × Value))) (show (sI (fun k => if G k 0 = 0 then 0 else 1) y + 1) = (sI (fun k => if G k 0 = 0 then 0 else 1) (y + 1)) by first | rfl | (rw [sI_s _ (by omega)]; (first | (rw [if_pos (by omega)]; omega) | (rw [if_neg (by omega)]))))) ?_
      exact ih4 (y + 1) (by omega) (by omega)
