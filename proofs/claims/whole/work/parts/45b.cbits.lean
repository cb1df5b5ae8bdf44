set_option maxRecDepth 100000 in
set_option maxHeartbeats 4000000 in
theorem c_J6_bitCount_0f7a4 (l : Launch) (D : va_G) (yc : Nat → ClassId) (t1 t2 : Nat) (A : Nat → Prop) {M : Type} (ww : M → va_W) (g : M) (z : Int) (hz : 0 ≤ z ∧ z < 256) : Ci l yJ6_bitCount_0f7a4 wsJ6_bitCount_0f7a4 { frames := 0, cells := 0, slots := 0, locals := 0 } D yc t1 t2 A ww [.int (iI (z))] g (fun r9 g' => r9 = (iI (sI (bt z) 24)) ∧ g' = g) := by
  refine start_i (cc := cJ6_bitCount_0f7a4) (nL := 1) (ret := (some .int)) (own := RJ6) (by decide +kernel) rfl rfl (Nat.le_of_ble_eq_true rfl) ?_
  intro p e s m9 below meth c9 C
  have wk265 : Cond.constant RJ6 265 1431655765 ∈ wsJ6_bitCount_0f7a4 := by decide +kernel
  have wk266 : Cond.constant RJ6 266 858993459 ∈ wsJ6_bitCount_0f7a4 := by decide +kernel
  have wk267 : Cond.constant RJ6 267 252645135 ∈ wsJ6_bitCount_0f7a4 := by decide +kernel
  refine v_lv (lv' := [(0, .int (iI (z)))]) rfl ?_
  refine v_iload_n C 0 dJ6_bitCount_0f7a4_0 rfl ?_
  refine v_iload_n C 0 dJ6_bitCount_0f7a4_1 rfl ?_
  refine v_iconst C dJ6_bitCount_0f7a4_2 ?_
  refine v_iushr (z := (iI (us z 1))) C dJ6_bitCount_0f7a4_3 (iI_of _).symm ?_
  refine v_ldcw (z := 1431655765) C wk265 dJ6_bitCount_0f7a4_4 (by decide) ?_
  refine v_iand (z := (iI (an2 (us z 1) 1431655765))) C dJ6_bitCount_0f7a4_7 (iI_of _).symm ?_
  refine v_isub C dJ6_bitCount_0f7a4_8 ?_
  refine v_st (st' := [.int (iI (bc1 z))]) rfl ?_
  refine v_istore_n (lv' := [(0, .int (iI (bc1 z)))]) C dJ6_bitCount_0f7a4_9 (by decide) rfl ?_
  refine v_iload_n C 0 dJ6_bitCount_0f7a4_10 rfl ?_
  refine v_ldcw (z := 858993459) C wk266 dJ6_bitCount_0f7a4_11 (by decide) ?_
  refine v_iand (z := (iI (an2 (bc1 z) 858993459))) C dJ6_bitCount_0f7a4_14 (iI_of _).symm ?_
  refine v_iload_n C 0 dJ6_bitCount_0f7a4_15 rfl ?_
  refine v_iconst C dJ6_bitCount_0f7a4_16 ?_
  refine v_iushr (z := (iI (us (bc1 z) 2))) C dJ6_bitCount_0f7a4_17 (iI_of _).symm ?_
  refine v_ldcw (z := 858993459) C wk266 dJ6_bitCount_0f7a4_18 (by decide) ?_
  refine v_iand (z := (iI (an2 (us (bc1 z) 2) 858993459))) C dJ6_bitCount_0f7a4_21 (iI_of _).symm ?_
  refine v_iadd C dJ6_bitCount_0f7a4_22 ?_
  refine v_st (st' := [.int (iI (bc2 z))]) rfl ?_
  refine v_istore_n (lv' := [(0, .int (iI (bc2 z)))]) C dJ6_bitCount_0f7a4_23 (by decide) rfl ?_
  refine v_iload_n C 0 dJ6_bitCount_0f7a4_24 rfl ?_
  refine v_iload_n C 0 dJ6_bitCount_0f7a4_25 rfl ?_
  refine v_iconst C dJ6_bitCount_0f7a4_26 ?_
  refine v_iushr (z := (iI (us (bc2 z) 4))) C dJ6_bitCount_0f7a4_27 (iI_of _).symm ?_
  refine v_iadd C dJ6_bitCount_0f7a4_28 ?_
  refine v_ldcw (z := 252645135) C wk267 dJ6_bitCount_0f7a4_29 (by decide) ?_
  refine v_iand (z := (iI (bc3 z))) C dJ6_bitCount_0f7a4_32 (iI_of _).symm ?_
  refine v_istore_n (lv' := [(0, .int (iI (bc3 z)))]) C dJ6_bitCount_0f7a4_33 (by decide) rfl ?_
  refine v_iload_n C 0 dJ6_bitCount_0f7a4_34 rfl ?_
  refine v_iload_n C 0 dJ6_bitCount_0f7a4_35 rfl ?_
  refine v_bipush C dJ6_bitCount_0f7a4_36 (by decide) ?_
  refine v_iushr (z := (iI (us (bc3 z) 8))) C dJ6_bitCount_0f7a4_38 (iI_of _).symm ?_
  refine v_iadd C dJ6_bitCount_0f7a4_39 ?_
  refine v_st (st' := [.int (iI (bc4 z))]) rfl ?_
  refine v_istore_n (lv' := [(0, .int (iI (bc4 z)))]) C dJ6_bitCount_0f7a4_40 (by decide) rfl ?_
  refine v_iload_n C 0 dJ6_bitCount_0f7a4_41 rfl ?_
  refine v_iload_n C 0 dJ6_bitCount_0f7a4_42 rfl ?_
  refine v_bipush C dJ6_bitCount_0f7a4_43 (by decide) ?_
  refine v_iushr (z := (iI (us (bc4 z) 16))) C dJ6_bitCount_0f7a4_45 (iI_of _).symm ?_
  refine v_iadd C dJ6_bitCount_0f7a4_46 ?_
  refine v_st (st' := [.int (iI (bc5 z))]) rfl ?_
  refine v_istore_n (lv' := [(0, .int (iI (bc5 z)))]) C dJ6_bitCount_0f7a4_47 (by decide) rfl ?_
  refine v_iload_n C 0 dJ6_bitCount_0f7a4_48 rfl ?_
  refine v_bipush C dJ6_bitCount_0f7a4_49 (by decide) ?_
  refine v_iand (z := (iI (bc6 z))) C dJ6_bitCount_0f7a4_51 (iI_of _).symm ?_
  exact v_ret_i C rfl dJ6_bitCount_0f7a4_52 ⟨(by rw [bc_e (by omega) (by omega)]), rfl⟩

set_option maxRecDepth 100000 in
set_option maxHeartbeats 4000000 in
theorem c_X4_walksByCode (l : Launch) (D : va_G) (yc : Nat → ClassId) (t1 t2 : Nat) (A : Nat → Prop) {M : Type} (ww : M → va_W) (g : M) (cd n : Int) (hn : 1 ≤ n ∧ n ≤ 8) (hc : 0 ≤ cd ∧ cd < pw n) : Ci l yX4_walksByCode wsX4_walksByCode { frames := 1, cells := 0, slots := 0, locals := 20 } D yc t1 t2 A ww [.int (iI (cd)), .int (iI (n))] g (fun r9 g' => r9 = (iI (wkB n cd)) ∧ g' = g) := by
  refine start_i (cc := cX4_walksByCode) (nL := 2) (ret := (some .int)) (own := RX4) (by decide +kernel) rfl rfl (Nat.le_of_ble_eq_true rfl) ?_
  intro p e s m9 below meth c9 C
  have h8 := pw_8 (n := n) (by omega) (by omega)
  have h7 := pw_8 (n := n - 1) (by omega) (by omega)
  have hd : 0 ≤ cd / pw 1 ∧ cd / pw 1 ≤ cd := ⟨Int.ediv_nonneg (by omega) (by decide), Int.ediv_le_self _ (by omega)⟩
  have hx := xr_bd (a := cd) (b := cd / pw 1) (by omega) (by omega) (by omega) (by omega)
  have hb := ad_bd (x := xr cd (cd / pw 1)) (y := pw (n - 1) - 1) (by omega) (by omega)
  refine v_lv (lv' := [(0, .int (iI (cd))), (1, .int (iI (n)))]) rfl ?_
  refine v_iload_n C 0 dX4_walksByCode_0 rfl ?_
  refine v_iload_n C 0 dX4_walksByCode_1 rfl ?_
  refine v_iconst C dX4_walksByCode_2 ?_
  refine v_ishr (z := (iI (cd / pw 1))) C dX4_walksByCode_3 (shr_bt (by omega) (by omega) (by omega) (by omega)) ?_
  refine v_ixor (z := (iI (xr cd (cd / pw 1)))) C dX4_walksByCode_4 (xor_xr (by omega) (by omega)) ?_
  refine v_iconst C dX4_walksByCode_5 ?_
  refine v_iload_n C 1 dX4_walksByCode_6 rfl ?_
  refine v_iconst C dX4_walksByCode_7 ?_
  refine v_isub C dX4_walksByCode_8 ?_
  refine v_ishl (z := (iI (pw (n - 1)))) C dX4_walksByCode_9 (shl_1 (by omega) (by omega)) ?_
  refine v_iconst C dX4_walksByCode_10 ?_
  refine v_isub C dX4_walksByCode_11 ?_
  refine v_iand (z := (iI (ad (xr cd (cd / pw 1)) (pw (n - 1) - 1)))) C dX4_walksByCode_12 (ad_e (by omega) (by omega)) ?_
  refine v_cS_i C (As := [.int (iI (ad (xr cd (cd / pw 1)) (pw (n - 1) - 1)))]) (rest := []) (c_J6_bitCount_0f7a4 l D yc t1 t2 A ww g (ad (xr cd (cd / pw 1)) (pw (n - 1) - 1)) (by omega)) (va_cwS 1 C.hts gX4_walksByCode_J6_bitCount_0f7a4 rfl rfl rfl (by decide +kernel) ⟨by decide, by decide⟩) rfl rfl (Nat.le_of_ble_eq_true rfl) dX4_walksByCode_13 ?_
  intro r9 g9 h9
  rw [h9.1, h9.2]
  clear h9 g9 r9
  try dsimp only
  exact v_ret_i C rfl dX4_walksByCode_16 ⟨(by rw [wc_e (by omega) (by omega) (by omega) (by omega)]), rfl⟩

set_option maxRecDepth 100000 in
set_option maxHeartbeats 4000000 in
theorem c_X4_ways (l : Launch) (D : va_G) (yc : Nat → ClassId) (t1 t2 : Nat) (a : Int → Nat) (A : Nat → Prop) (g : Mm) (F : Int → Int) (HF : FR g 0 F) (HI : FI F) : Ci l yX4_ways wsX4_ways { frames := 3, cells := 0, slots := 0, locals := 68 } D yc t1 t2 A (cw a yc) [.ref (a (0))] g (fun r9 g' => r9 = (iI (if F 0 = 0 then -4 else wyN F (pw (F 0)))) ∧ g' = (if F 0 = 0 then g else mu g 0 7 (wyF F (pw (F 0)).toNat))) := by
  refine start_i (cc := cX4_ways) (nL := 7) (ret := (some .int)) (own := RX4) (by decide +kernel) rfl rfl (Nat.le_of_ble_eq_true rfl) ?_
  intro p e s m9 below meth c9 C
  have wf21 : Cond.fieldLink RX4 21 (TX4 2).1 (TX4 2).2.1 (TX4 2).2.2.1 ∈ wsX4_ways := by decide +kernel
  have hinX4 : ∀ w ∈ u_ws RX4 TX4 10, w ∈ wsX4_ways := by decide +kernel
  have wf74 : Cond.fieldLink RX4 74 (TX4 7).1 (TX4 7).2.1 (TX4 7).2.2.1 ∈ wsX4_ways := by decide +kernel
  have wm235 : Cond.methodLink RX4 235 Lib.Math.min.name ∈ wsX4_ways := by decide +kernel
  have wnmin : Cond.static Lib.Math.min.name ∈ wsX4_ways := by decide +kernel
  have wmi : Cond.initialized "java/lang/Math" ∈ wsX4_ways := by decide +kernel
  have womin : Cond.code Lib.Math.min.name Lib.Math.min.code 2 (some .int) ∈ wsX4_ways := by decide +kernel
  have hn := HI.n
  have ho := ow_bd HI
  have hpp := pw_pos (F 0)
  refine v_lv (lv' := [(0, .ref (a (0)))]) rfl ?_
  refine v_aload_n C 0 dX4_ways_0 rfl ?_
  refine v_getf C (by omega) (by omega) ct_cow rfl 2 (by decide) wf21 hinX4 rfl dX4_ways_1 ?_
  refine v_st (st' := [.ref (a (26 + 0))]) rfl ?_
  refine v_cV_i C (As := []) (rest := []) (c_X1_isMissing l D yc t1 t2 a A g 0 F (by omega) HF HI) (cwV 0 C.hts gX4_ways_X1_isMissing rfl rfl rfl (by decide +kernel) ⟨by decide, by decide⟩) (fun H hP => va_recv C.hK hP (ci := 1) (q0 := (26 + 0 : Int).toNat) rfl (wo_is (by omega) (by omega) (ct_farm (by omega) (by omega)))) rfl rfl (Nat.le_of_ble_eq_true rfl) dX4_ways_4 ?_
  intro r9 g9 h9
  rw [h9.1, h9.2]
  clear h9 g9 r9
  try dsimp only
  refine v_ifb_eq (tgt := 13) C dX4_ways_7 (by decide) (fun c7 => ?_) (fun c7 => ?_)
  · skip
    refine v_iconst C dX4_ways_13 ?_
    refine v_istore_n (lv' := [(1, .int (iI (0))), (0, .ref (a (0)))]) C dX4_ways_14 (by decide) rfl ?_
    refine v_bipush C dX4_ways_15 (by decide) ?_
    refine v_istore_n (lv' := [(2, .int (iI (-9))), (1, .int (iI (0))), (0, .ref (a (0)))]) C dX4_ways_17 (by decide) rfl ?_
    refine v_aload_n C 2 dX4_ways_18 rfl ?_
    refine v_getf C (by omega) (by omega) ct_cow rfl 2 (by decide) wf21 hinX4 rfl dX4_ways_19 ?_
    refine v_st (st' := [.ref (a (26 + 0))]) rfl ?_
    refine v_cV_i C (As := []) (rest := []) (c_X1_allBeasts l D yc t1 t2 a A g 0 F (by omega) HF HI) (cwV 0 C.hts gX4_ways_X1_allBeasts rfl rfl rfl (by decide +kernel) ⟨by decide, by decide⟩) (fun H hP => va_recv C.hK hP (ci := 1) (q0 := (26 + 0 : Int).toNat) rfl (wo_is (by omega) (by omega) (ct_farm (by omega) (by omega)))) rfl rfl (Nat.le_of_ble_eq_true rfl) dX4_ways_22 ?_
    intro r9 g9 h9
    rw [h9.1, h9.2]
    clear h9 g9 r9
    try dsimp only
    refine v_istore_n (lv' := [(3, .int (iI (pw (F 0) - 1))), (2, .int (iI (-9))), (1, .int (iI (0))), (0, .ref (a (0)))]) C dX4_ways_25 (by decide) rfl ?_
    refine v_aload_n C 3 dX4_ways_26 rfl ?_
    refine v_getf C (by omega) (by omega) ct_cow rfl 2 (by decide) wf21 hinX4 rfl dX4_ways_27 ?_
    refine v_st (st' := [.ref (a (26 + 0))]) rfl ?_
    refine v_iconst C dX4_ways_30 ?_
    refine v_cV_i C (As := [.int (iI (1))]) (rest := []) (c_X1_setOf l D yc t1 t2 a A g 0 1 F (by omega) HF HI (by omega)) (cwV 1 C.hts gX4_ways_X1_setOf rfl rfl rfl (by decide +kernel) ⟨by decide, by decide⟩) (fun H hP => va_recv C.hK hP (ci := 1) (q0 := (26 + 0 : Int).toNat) rfl (wo_is (by omega) (by omega) (ct_farm (by omega) (by omega)))) rfl rfl (Nat.le_of_ble_eq_true rfl) dX4_ways_31 ?_
    intro r9 g9 h9
    rw [h9.1, h9.2]
    clear h9 g9 r9
    try dsimp only
    refine v_st (st' := [.int (iI (ow F))]) rfl ?_
    refine v_istore (lv' := [(4, .int (iI (ow F))), (3, .int (iI (pw (F 0) - 1))), (2, .int (iI (-9))), (1, .int (iI (0))), (0, .ref (a (0)))]) C dX4_ways_34 (by decide) rfl ?_
    refine v_iconst C dX4_ways_36 ?_
    refine v_istore (lv' := [(5, .int (iI (0))), (4, .int (iI (ow F))), (3, .int (iI (pw (F 0) - 1))), (2, .int (iI (-9))), (1, .int (iI (0))), (0, .ref (a (0)))]) C dX4_ways_37 (by decide) rfl ?_
    refine v_lv (congrArg (fun x9 => ([(5, .int (iI x9)), (4, .int (iI (ow F))), (3, .int (iI (pw (F 0) - 1))), (2, .int (iI (-9))), (1, .int (iI (0))), (0, .ref (a (0)))] : List (Nat × Value))) (show (0) = (((0 : Int))) by first | rfl | omega | (simp; done))) ?_
    refine v_lv (congrArg (fun x9 => ([(5, .int (iI (((0 : Int))))), (4, .int (iI (ow F))), (3, .int (iI (pw (F 0) - 1))), (2, .int (iI x9)), (1, .int (iI (0))), (0, .ref (a (0)))] : List (Nat × Value))) (show (-9) = (wyF F ((0 : Int)).toNat) by first | rfl | omega | (simp; done))) ?_
    refine v_lv (congrArg (fun x9 => ([(5, .int (iI (((0 : Int))))), (4, .int (iI (ow F))), (3, .int (iI (pw (F 0) - 1))), (2, .int (iI (wyF F ((0 : Int)).toNat))), (1, .int (iI x9)), (0, .ref (a (0)))] : List (Nat × Value))) (show (0) = (wyN F ((0 : Int))) by first | rfl | omega | (simp; done))) ?_
    refine v_loop1 (fun (t : Int) => (pw (F 0) - t).toNat) (fun (t : Int) => 0 ≤ t ∧ t ≤ pw (F 0)) (fun (t : Int) => [(5, .int (iI (t))), (4, .int (iI (ow F))), (3, .int (iI (pw (F 0) - 1))), (2, .int (iI (wyF F t.toNat))), (1, .int (iI (wyN F t))), (0, .ref (a (0)))]) (fun (t : Int) => g) ?_ 0 (by omega)
    intro t hI39 ih39
    try dsimp only at ih39 ⊢
    refine v_iload C 0 dX4_ways_39 rfl ?_
    refine v_iload_n C 2 dX4_ways_41 rfl ?_
    refine v_icmp_gt (tgt := 95) C dX4_ways_42 (by decide) (by omega) (by omega) (fun c42 => ?_) (fun c42 => ?_)
    · skip
      have htt : t = pw (F 0) := by omega
      refine v_lv (congrArg (fun x9 => ([(5, .int (iI (t))), (4, .int (iI (ow F))), (3, .int (iI (pw (F 0) - 1))), (2, .int (iI (wyF F t.toNat))), (1, .int (iI x9)), (0, .ref (a (0)))] : List (Nat × Value))) (show (wyN F t) = (wyN F (pw (F 0))) by rw [htt])) ?_
      refine v_lv (congrArg (fun x9 => ([(5, .int (iI (t))), (4, .int (iI (ow F))), (3, .int (iI (pw (F 0) - 1))), (2, .int (iI x9)), (1, .int (iI (wyN F (pw (F 0))))), (0, .ref (a (0)))] : List (Nat × Value))) (show (wyF F t.toNat) = (wyF F (pw (F 0)).toNat) by rw [htt])) ?_
      refine v_aload_n C 5 dX4_ways_95 rfl ?_
      refine v_iload_n C 3 dX4_ways_96 rfl ?_
      refine v_puti C (cta_L a yc) (by omega) (by omega) ct_cow rfl 7 (by decide) wf74 hinX4 tyX4 tyX4_ok nmX4 rfl (by decide +kernel) (by simp) cs_cow_7 dX4_ways_97 ?_
      refine v_g (g' := (mu g (0) (7) (wyF F (pw (F 0)).toNat))) rfl ?_
      refine v_iload_n C 4 dX4_ways_100 rfl ?_
      exact v_ret_i C rfl dX4_ways_101 ⟨(by repeat (first | rfl | rw [if_pos (by omega)] | rw [if_neg (by omega)])), (by repeat (first | rfl | rw [if_pos (by omega)] | rw [if_neg (by omega)]))⟩
    · skip
      refine v_aload_n C 5 dX4_ways_45 rfl ?_
      refine v_getf C (by omega) (by omega) ct_cow rfl 2 (by decide) wf21 hinX4 rfl dX4_ways_46 ?_
      refine v_st (st' := [.ref (a (26 + 0))]) rfl ?_
      refine v_iload C 0 dX4_ways_49 rfl ?_
      refine v_iconst C dX4_ways_51 ?_
      refine v_cV_i C (As := [.int (iI (t)), .int (iI (0))]) (rest := []) (c_X1_noneEnvies l D yc t1 t2 a A g 0 t 0 F (by omega) HF HI (by omega) (by omega)) (cwV 2 C.hts gX4_ways_X1_noneEnvies rfl rfl rfl (by decide +kernel) ⟨by decide, by decide⟩) (fun H hP => va_recv C.hK hP (ci := 1) (q0 := (26 + 0 : Int).toNat) rfl (wo_is (by omega) (by omega) (ct_farm (by omega) (by omega)))) rfl rfl (Nat.le_of_ble_eq_true rfl) dX4_ways_52 ?_
      intro r9 g9 h9
      rw [h9.1, h9.2]
      clear h9 g9 r9
      try dsimp only
      refine v_ifb_eq (tgt := 89) C dX4_ways_55 (by decide) (fun c55 => ?_) (fun c55 => ?_)
      · skip
        refine v_iinc (z' := t + 1) (lv' := [(5, .int (iI (t + 1))), (4, .int (iI (ow F))), (3, .int (iI (pw (F 0) - 1))), (2, .int (iI (wyF F t.toNat))), (1, .int (iI (wyN F t))), (0, .ref (a (0)))]) C 0 dX4_ways_89 rfl (by omega) (by decide) rfl ?_
        refine v_goto (tgt := 39) C dX4_ways_92 (by decide) ?_
        refine v_lv (congrArg (fun x9 => ([(5, .int (iI (t + 1))), (4, .int (iI (ow F))), (3, .int (iI (pw (F 0) - 1))), (2, .int (iI x9)), (1, .int (iI (wyN F t))), (0, .ref (a (0)))] : List (Nat × Value))) (show (wyF F t.toNat) = (wyF F (t + 1).toNat) by first | rfl | (rw [wyF_s F (t := t) (by omega), if_neg c55]))) ?_
        refine v_lv (congrArg (fun x9 => ([(5, .int (iI (t + 1))), (4, .int (iI (ow F))), (3, .int (iI (pw (F 0) - 1))), (2, .int (iI (wyF F (t + 1).toNat))), (1, .int (iI x9)), (0, .ref (a (0)))] : List (Nat × Value))) (show (wyN F t) = (wyN F (t + 1)) by first | rfl | (unfold wyN; rw [sI_s _ (by omega), if_neg c55]; omega))) ?_
        exact ih39 (t + 1) (by omega) (by omega)
      · skip
        have hxb := xr_bd (a := t) (b := ow F) (by omega) (by omega) (by omega) (by omega)
        have hdb := dv_bd F t
        have hwr := wyF_r F t.toNat
        refine v_iload C 0 dX4_ways_58 rfl ?_
        refine v_iload C 1 dX4_ways_60 rfl ?_
        refine v_ixor (z := (iI (xr t (ow F)))) C dX4_ways_62 (xor_xr (by omega) (by omega)) ?_
        refine v_cS_i C (As := [.int (iI (xr t (ow F)))]) (rest := []) (c_J6_bitCount_0f7a4 l D yc t1 t2 A (cw a yc) g (xr t (ow F)) (by omega)) (va_cwS 1 C.hts gX4_ways_J6_bitCount_0f7a4 rfl rfl rfl (by decide +kernel) ⟨by decide, by decide⟩) rfl rfl (Nat.le_of_ble_eq_true rfl) dX4_ways_63 ?_
        intro r9 g9 h9
        rw [h9.1, h9.2]
        clear h9 g9 r9
        try dsimp only
        refine v_st (st' := [.int (iI (dv F t))]) rfl ?_
        refine v_istore (lv' := [(6, .int (iI (dv F t))), (5, .int (iI (t))), (4, .int (iI (ow F))), (3, .int (iI (pw (F 0) - 1))), (2, .int (iI (wyF F t.toNat))), (1, .int (iI (wyN F t))), (0, .ref (a (0)))]) C dX4_ways_66 (by decide) rfl ?_
        refine v_iinc (z' := wyN F (t + 1)) (lv' := [(1, .int (iI (wyN F (t + 1)))), (6, .int (iI (dv F t))), (5, .int (iI (t))), (4, .int (iI (ow F))), (3, .int (iI (pw (F 0) - 1))), (2, .int (iI (wyF F t.toNat))), (0, .ref (a (0)))]) C 5 dX4_ways_68 rfl (by unfold wyN; rw [sI_s _ (by omega), if_pos c55]) (by decide) rfl ?_
        refine v_cut1 88 (fun (v88 : Int) => v88 = wyF F (t + 1).toNat) (fun (v88 : Int) => [(1, .int (iI (wyN F (t + 1)))), (6, .int (iI (dv F t))), (5, .int (iI (t))), (4, .int (iI (ow F))), (3, .int (iI (pw (F 0) - 1))), (2, .int (iI (wyF F t.toNat))), (0, .ref (a (0)))]) (fun (v88 : Int) => [.int (iI (v88))]) (fun (v88 : Int) => g) ?_ ?_
        · intro v88 hj88
          try dsimp only
          refine v_st (st' := [.int (iI (wyF F (t + 1).toNat))]) (by rw [hj88]) ?_
          refine v_istore_n (lv' := [(2, .int (iI (wyF F (t + 1).toNat))), (1, .int (iI (wyN F (t + 1)))), (6, .int (iI (dv F t))), (5, .int (iI (t))), (4, .int (iI (ow F))), (3, .int (iI (pw (F 0) - 1))), (0, .ref (a (0)))]) C dX4_ways_88 (by decide) rfl ?_
          refine v_iinc (z' := t + 1) (lv' := [(5, .int (iI (t + 1))), (2, .int (iI (wyF F (t + 1).toNat))), (1, .int (iI (wyN F (t + 1)))), (6, .int (iI (dv F t))), (4, .int (iI (ow F))), (3, .int (iI (pw (F 0) - 1))), (0, .ref (a (0)))]) C 3 dX4_ways_89 rfl (by omega) (by decide) rfl ?_
          refine v_goto (tgt := 39) C dX4_ways_92 (by decide) ?_
          refine v_sub (lv' := [(5, .int (iI (t + 1))), (4, .int (iI (ow F))), (3, .int (iI (pw (F 0) - 1))), (2, .int (iI (wyF F (t + 1).toNat))), (1, .int (iI (wyN F (t + 1)))), (0, .ref (a (0)))]) [0, 4, 5, 1, 2, 6] rfl ?_
          exact ih39 (t + 1) (by omega) (by omega)
        · intro jn88
          try dsimp only at jn88
          refine v_iload_n C 5 dX4_ways_71 rfl ?_
          refine v_bipush C dX4_ways_72 (by decide) ?_
          refine v_icmp_ne (tgt := 82) C dX4_ways_74 (by decide) (by omega) (by omega) (fun c74 => ?_) (fun c74 => ?_)
          · skip
            refine v_iload_n C 5 dX4_ways_82 rfl ?_
            refine v_iload C 1 dX4_ways_83 rfl ?_
            refine v_mmin C wm235 wnmin wmi womin (by decide) (Nat.le_of_ble_eq_true rfl) (by omega) (by omega) dX4_ways_85 ?_
            exact jn88 (if (dv F t) < (wyF F t.toNat) then (dv F t) else (wyF F t.toNat)) (by rw [wyF_s F (t := t) (by omega), if_pos c55]; (repeat' split) <;> omega)
          · skip
            refine v_iload C 1 dX4_ways_77 rfl ?_
            refine v_goto (tgt := 88) C dX4_ways_79 (by decide) ?_
            exact jn88 (dv F t) (by rw [wyF_s F (t := t) (by omega), if_pos c55]; (repeat' split) <;> omega)
  · skip
    refine v_bipush C dX4_ways_10 (by decide) ?_
    exact v_ret_i C rfl dX4_ways_12 ⟨(by repeat (first | rfl | rw [if_pos (by omega)] | rw [if_neg (by omega)])), (by repeat (first | rfl | rw [if_pos (by omega)] | rw [if_neg (by omega)]))⟩
