set_option maxRecDepth 100000 in
set_option maxHeartbeats 4000000 in
theorem c_X4_doByLot (l : Launch) (D : va_G) (yc : Nat → ClassId) (t1 t2 : Nat) (a : Int → Nat) (A : Nat → Prop) (g : Mm) (x : Int) (F : Int → Int) (hx : R32 x) (HF : FR g 0 F) (HI : FI F) (h0 : 0 < F 0) (h4 : F 4 < 60) (hx9 : 0 ≤ x ∧ x < 2147483647) : Cv l yX4_doByLot wsX4_doByLot { frames := 2, cells := 0, slots := 0, locals := 45 } D yc t1 t2 A (cw a yc) [.ref (a (0)), .int (iI (x))] g (fun g' => FR g' 0 (lot1 F x) ∧ ∀ q, oF 0 q → g' q = g q) := by
  refine start_v (cc := cX4_doByLot) (nL := 2) (ret := none) (own := RX4) (by decide +kernel) rfl rfl (Nat.le_of_ble_eq_true rfl) ?_
  intro p e s m9 below meth c9 C
  have wf21 : Cond.fieldLink RX4 21 (TX4 2).1 (TX4 2).2.1 (TX4 2).2.2.1 ∈ wsX4_doByLot := by decide +kernel
  have hinX4 : ∀ w ∈ u_ws RX4 TX4 10, w ∈ wsX4_doByLot := by decide +kernel
  have wf108 : Cond.fieldLink RX4 108 (TX1 7).1 (TX1 7).2.1 (TX1 7).2.2.1 ∈ wsX4_doByLot := by decide +kernel
  have hinX1 : ∀ w ∈ u_ws RX1 TX1 11, w ∈ wsX4_doByLot := by decide +kernel
  have hn := HI.n
  have htd := HI.td
  have hm9 := emd (d := x / 8) (n := F 0) (by omega)
  refine v_lv (lv' := [(0, .ref (a (0))), (1, .int (iI (x)))]) rfl ?_
  refine v_iload_n C 1 dX4_doByLot_0 rfl ?_
  refine v_iconst C dX4_doByLot_1 ?_
  refine v_irem C dX4_doByLot_2 (by omega) (by omega) (by omega) (by omega) ?_
  rcases (show x % 3 = 0 ∨ x % 3 = 1 ∨ (¬ x % 3 = 0 ∧ ¬ x % 3 = 1) by omega) with c3 | c3 | c3
  · refine v_lsw (off := 25) (tgt := 28) C dX4_doByLot_3 (by omega) rfl (by rw [c3]; decide) (by decide) ?_
    refine v_aload_n C 0 dX4_doByLot_28 rfl ?_
    refine v_getf C (by omega) (by omega) ct_cow rfl 2 (by decide) wf21 hinX4 rfl dX4_doByLot_29 ?_
    refine v_st (st' := [.ref (a (26 + 0))]) rfl ?_
    refine v_cV_v C (As := []) (rest := []) (c_X1_letDayGoBy l D yc t1 t2 a A g 0 (by omega) (by rw [HF.dc]; omega) (by rw [HF.td]; omega)) (cwV 0 C.hts gX4_doByLot_X1_letDayGoBy rfl rfl rfl (by decide +kernel) ⟨by decide, by decide⟩) (fun H hP => va_recv C.hK hP (ci := 1) (q0 := (26 + 0 : Int).toNat) rfl (wo_is (by omega) (by omega) (ct_farm (by omega) (by omega)))) rfl rfl (Nat.le_of_ble_eq_true rfl) dX4_doByLot_32 ?_
    intro g9 h9
    rw [h9]
    clear h9 g9
    try dsimp only
    refine v_goto (tgt := 92) C dX4_doByLot_35 (by decide) ?_
    exact v_ret_v C rfl dX4_doByLot_92 (lot_day HF HI h4 c3)
  · refine v_lsw (off := 35) (tgt := 38) C dX4_doByLot_3 (by omega) rfl (by rw [c3]; decide) (by decide) ?_
    refine v_aload_n C 0 dX4_doByLot_38 rfl ?_
    refine v_getf C (by omega) (by omega) ct_cow rfl 2 (by decide) wf21 hinX4 rfl dX4_doByLot_39 ?_
    refine v_st (st' := [.ref (a (26 + 0))]) rfl ?_
    refine v_getf C (by omega) (by omega) (ct_farm (by omega) (by omega)) rfl 7 (by decide) wf108 hinX1 rfl dX4_doByLot_42 ?_
    refine v_st (st' := [.int (iI (F 0))]) (by rw [HF.bc]) ?_
    refine v_if_le (tgt := 92) C dX4_doByLot_45 (by decide) (by omega) (fun c45 => ?_) (fun c45 => ?_)
    · skip
      exact v_ret_v C rfl dX4_doByLot_92 (by exfalso; omega)
    · skip
      refine v_aload_n C 0 dX4_doByLot_48 rfl ?_
      refine v_getf C (by omega) (by omega) ct_cow rfl 2 (by decide) wf21 hinX4 rfl dX4_doByLot_49 ?_
      refine v_st (st' := [.ref (a (26 + 0))]) rfl ?_
      refine v_iload_n C 1 dX4_doByLot_52 rfl ?_
      refine v_bipush C dX4_doByLot_53 (by decide) ?_
      refine v_idiv C dX4_doByLot_55 (by omega) (by omega) (by omega) (by omega) ?_
      refine v_aload_n C 0 dX4_doByLot_56 rfl ?_
      refine v_getf C (by omega) (by omega) ct_cow rfl 2 (by decide) wf21 hinX4 rfl dX4_doByLot_57 ?_
      refine v_st (st' := [.ref (a (26 + 0)), .int (iI (x / 8)), .ref (a (26 + 0))]) rfl ?_
      refine v_getf C (by omega) (by omega) (ct_farm (by omega) (by omega)) rfl 7 (by decide) wf108 hinX1 rfl dX4_doByLot_60 ?_
      refine v_st (st' := [.int (iI (F 0)), .int (iI (x / 8)), .ref (a (26 + 0))]) (by rw [HF.bc]) ?_
      refine v_irem C dX4_doByLot_63 (by omega) (by omega) (by omega) (by omega) ?_
      refine v_cV_v C (As := [.int (iI ((x / 8) % (F 0)))]) (rest := []) (c_X1_driveOver l D yc t1 t2 a A g 0 ((x / 8) % (F 0)) (by omega) (by rw [HF.dc]; omega) (by rw [HF.bc]; omega) (by rw [HF.bc]; omega)) (cwV 1 C.hts gX4_doByLot_X1_driveOver rfl rfl rfl (by decide +kernel) ⟨by decide, by decide⟩) (fun H hP => va_recv C.hK hP (ci := 1) (q0 := (26 + 0 : Int).toNat) rfl (wo_is (by omega) (by omega) (ct_farm (by omega) (by omega)))) rfl rfl (Nat.le_of_ble_eq_true rfl) dX4_doByLot_64 ?_
      intro g9 h9
      rw [h9]
      clear h9 g9
      try dsimp only
      refine v_goto (tgt := 92) C dX4_doByLot_67 (by decide) ?_
      exact v_ret_v C rfl dX4_doByLot_92 (lot_drv HF HI h0 h4 c3)
  · refine v_lsw (off := 67) (tgt := 70) C dX4_doByLot_3 (by omega) rfl (by simp [Op.lookupswitch.offset, c3, show ¬ (0 : Int) = x % 3 by omega, show ¬ (1 : Int) = x % 3 by omega]) (by decide) ?_
    refine v_aload_n C 0 dX4_doByLot_70 rfl ?_
    refine v_getf C (by omega) (by omega) ct_cow rfl 2 (by decide) wf21 hinX4 rfl dX4_doByLot_71 ?_
    refine v_st (st' := [.ref (a (26 + 0))]) rfl ?_
    refine v_iload_n C 1 dX4_doByLot_74 rfl ?_
    refine v_bipush C dX4_doByLot_75 (by decide) ?_
    refine v_idiv C dX4_doByLot_77 (by omega) (by omega) (by omega) (by omega) ?_
    refine v_iconst C dX4_doByLot_78 ?_
    refine v_irem C dX4_doByLot_79 (by omega) (by omega) (by omega) (by omega) ?_
    refine v_iload_n C 1 dX4_doByLot_80 rfl ?_
    refine v_bipush C dX4_doByLot_81 (by decide) ?_
    refine v_idiv C dX4_doByLot_83 (by omega) (by omega) (by omega) (by omega) ?_
    refine v_bipush C dX4_doByLot_84 (by decide) ?_
    refine v_irem C dX4_doByLot_86 (by omega) (by omega) (by omega) (by omega) ?_
    refine v_iconst C dX4_doByLot_87 ?_
    refine v_iadd C dX4_doByLot_88 ?_
    refine v_cV_v C (As := [.int (iI ((x / 16) % 2)), .int (iI (((x / 64) % 9) + 1))]) (rest := []) (c_X1_payOver l D yc t1 t2 a A g 0 ((x / 16) % 2) (((x / 64) % 9) + 1) (by omega) (by rw [HF.dc]; omega) (by omega)) (cwV 2 C.hts gX4_doByLot_X1_payOver rfl rfl rfl (by decide +kernel) ⟨by decide, by decide⟩) (fun H hP => va_recv C.hK hP (ci := 1) (q0 := (26 + 0 : Int).toNat) rfl (wo_is (by omega) (by omega) (ct_farm (by omega) (by omega)))) rfl rfl (Nat.le_of_ble_eq_true rfl) dX4_doByLot_89 ?_
    intro g9 h9
    rw [h9]
    clear h9 g9
    try dsimp only
    exact v_ret_v C rfl dX4_doByLot_92 (lot_pay HF HI h4 (by omega))

set_option maxRecDepth 100000 in
set_option maxHeartbeats 4000000 in
theorem c_X4_lots (l : Launch) (D : va_G) (yc : Nat → ClassId) (t1 t2 : Nat) (a : Int → Nat) (A : Nat → Prop) (g : Mm) (n sd : Int) (F : Int → Int) (hn : R32 n) (hsd : R32 sd) (HF : FR g 0 F) (HI : FI F) : Ci l yX4_lots wsX4_lots { frames := 3, cells := 0, slots := 0, locals := 66 } D yc t1 t2 A (cw a yc) [.ref (a (0)), .int (iI (n)), .int (iI (sd))] g (fun r9 g' => r9 = iI (if (n < 1 ∨ 20 < n) ∨ (sd < 1 ∨ 2147483646 < sd) then -1 else if F 0 = 0 then -4 else if 60 < F 4 + n then -2 else sI (bt (so (lF F sd n.toNat) 0 ((lF F sd n.toNat) 0))) 24) ∧ (if (n < 1 ∨ 20 < n) ∨ (sd < 1 ∨ 2147483646 < sd) then g' = g else if F 0 = 0 then g' = g else if 60 < F 4 + n then g' = g else FR g' 0 (lF F sd n.toNat) ∧ ∀ q, oF 0 q → g' q = g q)) := by
  refine start_i (cc := cX4_lots) (nL := 6) (ret := (some .int)) (own := RX4) (by decide +kernel) rfl rfl (Nat.le_of_ble_eq_true rfl) ?_
  intro p e s m9 below meth c9 C
  have wk265 : Cond.constantLong RX4 265 2147483647 ∈ wsX4_lots := by decide +kernel
  have wf21 : Cond.fieldLink RX4 21 (TX4 2).1 (TX4 2).2.1 (TX4 2).2.2.1 ∈ wsX4_lots := by decide +kernel
  have hinX4 : ∀ w ∈ u_ws RX4 TX4 10, w ∈ wsX4_lots := by decide +kernel
  have wf151 : Cond.fieldLink RX4 151 (TX1 8).1 (TX1 8).2.1 (TX1 8).2.2.1 ∈ wsX4_lots := by decide +kernel
  have hinX1 : ∀ w ∈ u_ws RX1 TX1 11, w ∈ wsX4_lots := by decide +kernel
  have wk267 : Cond.constantLong RX4 267 48271 ∈ wsX4_lots := by decide +kernel
  have hn := HI.n
  have htd := HI.td
  refine v_lv (lv' := [(0, .ref (a (0))), (1, .int (iI (n))), (2, .int (iI (sd)))]) rfl ?_
  refine v_iload_n C 1 dX4_lots_0 rfl ?_
  refine v_iconst C dX4_lots_1 ?_
  refine v_bipush C dX4_lots_2 (by decide) ?_
  refine v_cS_i C (As := [.int (iI (n)), .int (iI (1)), .int (iI (20))]) (rest := []) (c_X4_outside l D yc t1 t2 A (cw a yc) g n 1 20 (by omega) (by omega) (by omega)) (va_cwS 3 C.hts gX4_lots_X4_outside rfl rfl rfl (by decide +kernel) ⟨by decide, by decide⟩) rfl rfl (Nat.le_of_ble_eq_true rfl) dX4_lots_4 ?_
  intro r9 g9 h9
  rw [h9.1, h9.2]
  clear h9 g9 r9
  try dsimp only
  refine v_ifb_ne (tgt := 24) C dX4_lots_7 (by decide) (fun c7 => ?_) (fun c7 => ?_)
  · skip
    refine v_iconst C dX4_lots_24 ?_
    exact v_ret_i C rfl dX4_lots_25 (by show _ ∧ _; rw [if_pos (show (n < 1 ∨ 20 < n) ∨ (sd < 1 ∨ 2147483646 < sd) by omega), if_pos (show (n < 1 ∨ 20 < n) ∨ (sd < 1 ∨ 2147483646 < sd) by omega)]; exact ⟨rfl, rfl⟩)
  · skip
    refine v_iload_n C 2 dX4_lots_10 rfl ?_
    refine v_iconst C dX4_lots_11 ?_
    refine v_icmp_lt (tgt := 24) C dX4_lots_12 (by decide) (by omega) (by omega) (fun c12 => ?_) (fun c12 => ?_)
    · skip
      refine v_iconst C dX4_lots_24 ?_
      exact v_ret_i C rfl dX4_lots_25 (by show _ ∧ _; rw [if_pos (show (n < 1 ∨ 20 < n) ∨ (sd < 1 ∨ 2147483646 < sd) by omega), if_pos (show (n < 1 ∨ 20 < n) ∨ (sd < 1 ∨ 2147483646 < sd) by omega)]; exact ⟨rfl, rfl⟩)
    · skip
      refine v_iload_n C 2 dX4_lots_15 rfl ?_
      refine v_i2l C dX4_lots_16 (by omega) ?_
      refine v_ldc2 (z := 2147483647) C wk265 dX4_lots_17 (by decide) ?_
      refine v_lcmp C (by omega) (by omega) dX4_lots_20 (fun h_1 => ?_) (fun h_2 => ?_) (fun h_3 => ?_)
      · skip
        refine v_if_lt (tgt := 26) C dX4_lots_21 (by decide) (by decide) (fun _ => ?_) (fun h9 => absurd h9 (by decide))
        refine v_aload_n C 0 dX4_lots_26 rfl ?_
        refine v_getf C (by omega) (by omega) ct_cow rfl 2 (by decide) wf21 hinX4 rfl dX4_lots_27 ?_
        refine v_st (st' := [.ref (a (26 + 0))]) rfl ?_
        refine v_cV_i C (As := []) (rest := []) (c_X1_isMissing l D yc t1 t2 a A g 0 F (by omega) HF HI) (cwV 0 C.hts gX4_lots_X1_isMissing rfl rfl rfl (by decide +kernel) ⟨by decide, by decide⟩) (fun H hP => va_recv C.hK hP (ci := 1) (q0 := (26 + 0 : Int).toNat) rfl (wo_is (by omega) (by omega) (ct_farm (by omega) (by omega)))) rfl rfl (Nat.le_of_ble_eq_true rfl) dX4_lots_30 ?_
        intro r9 g9 h9
        rw [h9.1, h9.2]
        clear h9 g9 r9
        try dsimp only
        refine v_ifb_eq (tgt := 39) C dX4_lots_33 (by decide) (fun c33 => ?_) (fun c33 => ?_)
        · skip
          refine v_aload_n C 0 dX4_lots_39 rfl ?_
          refine v_getf C (by omega) (by omega) ct_cow rfl 2 (by decide) wf21 hinX4 rfl dX4_lots_40 ?_
          refine v_st (st' := [.ref (a (26 + 0))]) rfl ?_
          refine v_getf C (by omega) (by omega) (ct_farm (by omega) (by omega)) rfl 8 (by decide) wf151 hinX1 rfl dX4_lots_43 ?_
          refine v_st (st' := [.int (iI (F 4))]) (by rw [HF.dc]) ?_
          refine v_iload_n C 1 dX4_lots_46 rfl ?_
          refine v_iadd C dX4_lots_47 ?_
          refine v_bipush C dX4_lots_48 (by decide) ?_
          refine v_icmp_le (tgt := 56) C dX4_lots_50 (by decide) (by omega) (by omega) (fun c50 => ?_) (fun c50 => ?_)
          · skip
            refine v_iload_n C 2 dX4_lots_56 rfl ?_
            refine v_i2l C dX4_lots_57 (by omega) ?_
            refine v_lstore_n (lv' := [(3, .long (lI (sd))), (0, .ref (a (0))), (1, .int (iI (n))), (2, .int (iI (sd)))]) C dX4_lots_58 (by decide) rfl ?_
            refine v_iconst C dX4_lots_59 ?_
            refine v_istore (lv' := [(5, .int (iI (0))), (3, .long (lI (sd))), (0, .ref (a (0))), (1, .int (iI (n))), (2, .int (iI (sd)))]) C dX4_lots_60 (by decide) rfl ?_
            refine v_lv (congrArg (fun x9 => ([(5, .int (iI x9)), (3, .long (lI (sd))), (0, .ref (a (0))), (1, .int (iI (n))), (2, .int (iI (sd)))] : List (Nat × Value))) (show (0) = (((0 : Int))) by first | rfl | omega | (simp; done))) ?_
            refine v_lv (congrArg (fun x9 => ([(5, .int (iI (((0 : Int))))), (3, .long (lI x9)), (0, .ref (a (0))), (1, .int (iI (n))), (2, .int (iI (sd)))] : List (Nat × Value))) (show (sd) = (lx sd ((0 : Int)).toNat) by first | rfl | omega | (simp; done))) ?_
            refine v_loop2 (fun (t : Int) (h : Mm) => (n - t).toNat) (fun (t : Int) (h : Mm) => 0 ≤ t ∧ t ≤ n ∧ FR h 0 (lF F sd t.toNat) ∧ ∀ q, oF 0 q → h q = g q) (fun (t : Int) (h : Mm) => [(5, .int (iI (t))), (3, .long (lI (lx sd t.toNat))), (0, .ref (a (0))), (1, .int (iI (n))), (2, .int (iI (sd)))]) (fun (t : Int) (h : Mm) => h) ?_ 0 g ⟨by omega, by omega, HF, fun q o => rfl⟩
            intro t h hI62 ih62
            try dsimp only at ih62 ⊢
            refine v_iload C 0 dX4_lots_62 rfl ?_
            refine v_iload_n C 3 dX4_lots_64 rfl ?_
            refine v_icmp_ge (tgt := 90) C dX4_lots_65 (by decide) (by omega) (by omega) (fun c65 => ?_) (fun c65 => ?_)
            · skip
              have htn : t = n := by omega
              have hok := lF_ok HI (by omega) (s := sd) (by omega) (by omega) n.toNat (by omega)
              have hon := hok.1.n
              have hso := so_bd (lF F sd n.toNat) 0 (n := (lF F sd n.toNat) 0) (by omega)
              have hpp := pw_8 (n := (lF F sd n.toNat) 0) (by omega) (by omega)
              have HFN : FR h 0 (lF F sd n.toNat) := (by have := hI62.2.2.1; rw [htn] at this; exact this)
              refine v_aload_n C 2 dX4_lots_90 rfl ?_
              refine v_getf C (by omega) (by omega) ct_cow rfl 2 (by decide) wf21 hinX4 rfl dX4_lots_91 ?_
              refine v_st (st' := [.ref (a (26 + 0))]) rfl ?_
              refine v_iconst C dX4_lots_94 ?_
              refine v_cV_i C (As := [.int (iI (0))]) (rest := []) (c_X1_setOf l D yc t1 t2 a A h 0 0 ((lF F sd n.toNat)) (by omega) HFN hok.1 (by omega)) (cwV 1 C.hts gX4_lots_X1_setOf rfl rfl rfl (by decide +kernel) ⟨by decide, by decide⟩) (fun H hP => va_recv C.hK hP (ci := 1) (q0 := (26 + 0 : Int).toNat) rfl (wo_is (by omega) (by omega) (ct_farm (by omega) (by omega)))) rfl rfl (Nat.le_of_ble_eq_true rfl) dX4_lots_95 ?_
              intro r9 g9 h9
              rw [h9.1, h9.2]
              clear h9 g9 r9
              try dsimp only
              refine v_cS_i C (As := [.int (iI (so ((lF F sd n.toNat)) 0 (((lF F sd n.toNat)) 0)))]) (rest := []) (c_J6_bitCount_0f7a4 l D yc t1 t2 A (cw a yc) h (so ((lF F sd n.toNat)) 0 (((lF F sd n.toNat)) 0)) (by omega)) (va_cwS 1 C.hts gX4_lots_J6_bitCount_0f7a4 rfl rfl rfl (by decide +kernel) ⟨by decide, by decide⟩) rfl rfl (Nat.le_of_ble_eq_true rfl) dX4_lots_98 ?_
              intro r9 g9 h9
              rw [h9.1, h9.2]
              clear h9 g9 r9
              try dsimp only
              exact v_ret_i C rfl dX4_lots_101 (by show _ ∧ _; rw [if_neg (show ¬ ((n < 1 ∨ 20 < n) ∨ (sd < 1 ∨ 2147483646 < sd)) by omega), if_neg (show ¬ ((n < 1 ∨ 20 < n) ∨ (sd < 1 ∨ 2147483646 < sd)) by omega), if_neg (show ¬ (F 0 = 0) by omega), if_neg (show ¬ (F 0 = 0) by omega), if_neg (show ¬ (60 < F 4 + n) by omega), if_neg (show ¬ (60 < F 4 + n) by omega)]; exact ⟨rfl, HFN, hI62.2.2.2⟩)
            · skip
              have hok := lF_ok HI (by omega) (s := sd) (by omega) (by omega) t.toNat (by omega)
              have hxb := lx_bd (s := sd) (by omega) (by omega) t.toNat
              have hyb := lx_bd (s := sd) (by omega) (by omega) (t + 1).toNat
              refine v_lload_n C 1 dX4_lots_68 rfl ?_
              refine v_ldc2 (z := 48271) C wk267 dX4_lots_69 (by decide) ?_
              refine v_lmul C dX4_lots_72 ?_
              refine v_ldc2 (z := 2147483647) C wk265 dX4_lots_73 (by decide) ?_
              refine v_lremR (z := (lI (lx sd t.toNat * 48271 % 2147483647))) C dX4_lots_76 (lI_ne (by omega) (by omega)) (lI_rem (by omega) (by omega) (by omega) (by omega)) ?_
              refine v_st (st' := [.long (lI (lx sd (t + 1).toNat))]) (by rw [lx_s (by omega)]) ?_
              refine v_lstore_n (lv' := [(3, .long (lI (lx sd (t + 1).toNat))), (5, .int (iI (t))), (0, .ref (a (0))), (1, .int (iI (n))), (2, .int (iI (sd)))]) C dX4_lots_77 (by decide) rfl ?_
              refine v_aload_n C 2 dX4_lots_78 rfl ?_
              refine v_lload_n C 0 dX4_lots_79 rfl ?_
              refine v_l2i C dX4_lots_80 ?_
              refine v_cV_v C (As := [.int (iI (lx sd (t + 1).toNat))]) (rest := []) (c_X4_doByLot l D yc t1 t2 a A h (lx sd (t + 1).toNat) ((lF F sd t.toNat)) (by omega) hI62.2.2.1 hok.1 (by omega) (by omega) (by omega)) (cwV 1 C.hts gX4_lots_X4_doByLot rfl rfl rfl (by decide +kernel) ⟨by decide, by decide⟩) (fun H hP => va_recv C.hK hP (ci := 4) (q0 := (0 : Int).toNat) rfl (wo_is (by omega) (by omega) ct_cow)) rfl rfl (Nat.le_of_ble_eq_true rfl) dX4_lots_81 ?_
              rintro g81 ⟨H81, HO81⟩
              try dsimp only
              refine v_iinc (z' := t + 1) (lv' := [(5, .int (iI (t + 1))), (3, .long (lI (lx sd (t + 1).toNat))), (0, .ref (a (0))), (1, .int (iI (n))), (2, .int (iI (sd)))]) C 1 dX4_lots_84 rfl (by omega) (by decide) rfl ?_
              refine v_goto (tgt := 62) C dX4_lots_87 (by decide) ?_
              exact ih62 (t + 1) g81 ⟨by omega, by omega, by rw [lF_s (by omega)]; exact H81, fun q o => by rw [HO81 q o]; exact hI62.2.2.2 q o⟩ (by omega)
          · skip
            refine v_bipush C dX4_lots_53 (by decide) ?_
            exact v_ret_i C rfl dX4_lots_55 (by show _ ∧ _; rw [if_neg (show ¬ ((n < 1 ∨ 20 < n) ∨ (sd < 1 ∨ 2147483646 < sd)) by omega), if_neg (show ¬ ((n < 1 ∨ 20 < n) ∨ (sd < 1 ∨ 2147483646 < sd)) by omega), if_neg (show ¬ (F 0 = 0) by omega), if_neg (show ¬ (F 0 = 0) by omega), if_pos (show 60 < F 4 + n by omega), if_pos (show 60 < F 4 + n by omega)]; exact ⟨rfl, rfl⟩)
        · skip
          refine v_bipush C dX4_lots_36 (by decide) ?_
          exact v_ret_i C rfl dX4_lots_38 (by show _ ∧ _; rw [if_neg (show ¬ ((n < 1 ∨ 20 < n) ∨ (sd < 1 ∨ 2147483646 < sd)) by omega), if_neg (show ¬ ((n < 1 ∨ 20 < n) ∨ (sd < 1 ∨ 2147483646 < sd)) by omega), if_pos (show F 0 = 0 by omega), if_pos (show F 0 = 0 by omega)]; exact ⟨rfl, rfl⟩)
      · skip
        refine v_if_lt (tgt := 26) C dX4_lots_21 (by decide) (by decide) (fun h9 => absurd h9 (by decide)) (fun _ => ?_)
        refine v_iconst C dX4_lots_24 ?_
        exact v_ret_i C rfl dX4_lots_25 (by show _ ∧ _; rw [if_pos (show (n < 1 ∨ 20 < n) ∨ (sd < 1 ∨ 2147483646 < sd) by omega), if_pos (show (n < 1 ∨ 20 < n) ∨ (sd < 1 ∨ 2147483646 < sd) by omega)]; exact ⟨rfl, rfl⟩)
      · skip
        refine v_if_lt (tgt := 26) C dX4_lots_21 (by decide) (by decide) (fun h9 => absurd h9 (by decide)) (fun _ => ?_)
        refine v_iconst C dX4_lots_24 ?_
        exact v_ret_i C rfl dX4_lots_25 (by show _ ∧ _; rw [if_pos (show (n < 1 ∨ 20 < n) ∨ (sd < 1 ∨ 2147483646 < sd) by omega), if_pos (show (n < 1 ∨ 20 < n) ∨ (sd < 1 ∨ 2147483646 < sd) by omega)]; exact ⟨rfl, rfl⟩)
