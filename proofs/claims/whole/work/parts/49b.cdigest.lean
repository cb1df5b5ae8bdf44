set_option maxRecDepth 100000 in
set_option maxHeartbeats 4000000 in
theorem c_X4_digestRows_r (l : Launch) (D : va_G) (yc : Nat → ClassId) (t1 t2 : Nat) (a : Int → Nat) (A : Nat → Prop) (g : Mm) (h : Int) (HC : CI g) : Cl l yX4_digestRows wsX4_digestRows { frames := 0, cells := 0, slots := 0, locals := 0 } D yc t1 t2 A (cw a yc) [.long (lI (h)), .ref (a (1))] g (fun r9 g' => r9 = (lI (rf h (fun u9 => g (6 + u9) 1) (fun u9 j9 => g (16 + u9) j9) 6)) ∧ g' = g) := by
  refine start_l (cc := cX4_digestRows) (nL := 7) (ret := (some .long)) (own := RX4) (by decide +kernel) rfl rfl (Nat.le_of_ble_eq_true rfl) ?_
  intro p e s m9 below meth c9 C
  have wk290 : Cond.constantLong RX4 290 31 ∈ wsX4_digestRows := by decide +kernel
  have wf78 : Cond.fieldLink RX4 78 (TX3 1).1 (TX3 1).2.1 (TX3 1).2.2.1 ∈ wsX4_digestRows := by decide +kernel
  have hinX3 : ∀ w ∈ u_ws RX3 TX3 2, w ∈ wsX4_digestRows := by decide +kernel
  have wf63 : Cond.fieldLink RX4 63 (TX3 0).1 (TX3 0).2.1 (TX3 0).2.2.1 ∈ wsX4_digestRows := by decide +kernel
  refine v_lv (lv' := [(0, .long (lI (h))), (2, .ref (a (1)))]) rfl ?_
  refine v_lload_n C 0 dX4_digestRows_0 rfl ?_
  refine v_lstore_n (lv' := [(3, .long (lI (h))), (0, .long (lI (h))), (2, .ref (a (1)))]) C dX4_digestRows_1 (by decide) rfl ?_
  refine v_iconst C dX4_digestRows_2 ?_
  refine v_istore (lv' := [(5, .int (iI (0))), (3, .long (lI (h))), (0, .long (lI (h))), (2, .ref (a (1)))]) C dX4_digestRows_3 (by decide) rfl ?_
  refine v_lv (congrArg (fun x9 => ([(5, .int (iI x9)), (3, .long (lI (h))), (0, .long (lI (h))), (2, .ref (a (1)))] : List (Nat × Value))) (show (0) = (((0 : Int))) by first | rfl | omega | (simp; done))) ?_
  refine v_lv (congrArg (fun x9 => ([(5, .int (iI (((0 : Int))))), (3, .long (lI x9)), (0, .long (lI (h))), (2, .ref (a (1)))] : List (Nat × Value))) (show (h) = (rf h (fun u9 => g (6 + u9) 1) (fun u9 j9 => g (16 + u9) j9) ((0 : Int))) by first | rfl | omega | (simp; done))) ?_
  refine v_loop1 (fun (t : Int) => (6 - t).toNat) (fun (t : Int) => 0 ≤ t ∧ t ≤ 6) (fun (t : Int) => [(5, .int (iI (t))), (3, .long (lI (rf h (fun u9 => g (6 + u9) 1) (fun u9 j9 => g (16 + u9) j9) t))), (0, .long (lI (h))), (2, .ref (a (1)))]) (fun (t : Int) => g) ?_ 0 (by omega)
  intro t hI5 ih5
  try dsimp only at ih5 ⊢
  refine v_iload C 0 dX4_digestRows_5 rfl ?_
  refine v_aload_n C 3 dX4_digestRows_7 rfl ?_
  refine v_alen C (by omega) (by omega) 4 rfl ct_rowsA dX4_digestRows_8 ?_
  refine v_st (st' := [.int (iI (6)), .int (iI (t))]) rfl ?_
  refine v_icmp_ge (tgt := 72) C dX4_digestRows_9 (by decide) (by omega) (by omega) (fun c9 => ?_) (fun c9 => ?_)
  · skip
    refine v_lload_n C 1 dX4_digestRows_72 rfl ?_
    exact v_ret_l C rfl dX4_digestRows_73 ⟨(by rw [show t = 6 by omega]), rfl⟩
  · skip
    have hz9 := HC.sz (r := t) (by omega) (by omega)
    have hl9 := rl40 (r := t) (by omega)
    refine v_ldc2 (z := 31) C wk290 dX4_digestRows_12 (by decide) ?_
    refine v_lload_n C 1 dX4_digestRows_15 rfl ?_
    refine v_lmul C dX4_digestRows_16 ?_
    refine v_aload_n C 3 dX4_digestRows_17 rfl ?_
    refine v_iload C 0 dX4_digestRows_18 rfl ?_
    refine v_aaload (f := fun j => 6 + j) C (by omega) (by omega) 4 rfl ct_rowsA (by omega) (by omega) (by decide) dX4_digestRows_20 ?_
    refine v_getf C (by omega) (by omega) (ct_row (by omega) (by omega)) rfl 1 (by decide) wf78 hinX3 rfl dX4_digestRows_21 ?_
    refine v_i2l C dX4_digestRows_24 (by omega) ?_
    refine v_ladd C dX4_digestRows_25 ?_
    refine v_lstore_n (lv' := [(3, .long (lI ((31 * (rf h (fun u9 => g (6 + u9) 1) (fun u9 j9 => g (16 + u9) j9) t)) + (g (6 + t) (1))))), (5, .int (iI (t))), (0, .long (lI (h))), (2, .ref (a (1)))]) C dX4_digestRows_26 (by decide) rfl ?_
    refine v_iconst C dX4_digestRows_27 ?_
    refine v_istore (lv' := [(6, .int (iI (0))), (3, .long (lI ((31 * (rf h (fun u9 => g (6 + u9) 1) (fun u9 j9 => g (16 + u9) j9) t)) + (g (6 + t) (1))))), (5, .int (iI (t))), (0, .long (lI (h))), (2, .ref (a (1)))]) C dX4_digestRows_28 (by decide) rfl ?_
    refine v_lv (congrArg (fun x9 => ([(6, .int (iI x9)), (3, .long (lI ((31 * (rf h (fun u9 => g (6 + u9) 1) (fun u9 j9 => g (16 + u9) j9) t)) + (g (6 + t) (1))))), (5, .int (iI (t))), (0, .long (lI (h))), (2, .ref (a (1)))] : List (Nat × Value))) (show (0) = (((0 : Int))) by first | rfl | omega | (simp; done))) ?_
    refine v_lv (congrArg (fun x9 => ([(6, .int (iI (((0 : Int))))), (3, .long (lI x9)), (5, .int (iI (t))), (0, .long (lI (h))), (2, .ref (a (1)))] : List (Nat × Value))) (show ((31 * (rf h (fun u9 => g (6 + u9) 1) (fun u9 j9 => g (16 + u9) j9) t)) + (g (6 + t) (1))) = (hf (31 * rf h (fun u9 => g (6 + u9) 1) (fun u9 j9 => g (16 + u9) j9) t + g (6 + t) 1) ((fun u9 j9 => g (16 + u9) j9) t) ((0 : Int))) by first | rfl | omega | (simp; done))) ?_
    refine v_loop1 (fun (y : Int) => (g (6 + t) 1 - y).toNat) (fun (y : Int) => 0 ≤ y ∧ (y ≤ g (6 + t) 1 ∨ y = 0)) (fun (y : Int) => [(6, .int (iI (y))), (3, .long (lI (hf (31 * rf h (fun u9 => g (6 + u9) 1) (fun u9 j9 => g (16 + u9) j9) t + g (6 + t) 1) ((fun u9 j9 => g (16 + u9) j9) t) y))), (5, .int (iI (t))), (0, .long (lI (h))), (2, .ref (a (1)))]) (fun (y : Int) => g) ?_ 0 (by omega)
    intro y hI30 ih30
    try dsimp only at ih30 ⊢
    refine v_iload C 0 dX4_digestRows_30 rfl ?_
    refine v_aload_n C 4 dX4_digestRows_32 rfl ?_
    refine v_iload C 2 dX4_digestRows_33 rfl ?_
    refine v_aaload (f := fun j => 6 + j) C (by omega) (by omega) 4 rfl ct_rowsA (by omega) (by omega) (by decide) dX4_digestRows_35 ?_
    refine v_getf C (by omega) (by omega) (ct_row (by omega) (by omega)) rfl 1 (by decide) wf78 hinX3 rfl dX4_digestRows_36 ?_
    refine v_icmp_ge (tgt := 66) C dX4_digestRows_39 (by decide) (by omega) (by omega) (fun c39 => ?_) (fun c39 => ?_)
    · skip
      refine v_lv (congrArg (fun x9 => ([(6, .int (iI (y))), (3, .long (lI x9)), (5, .int (iI (t))), (0, .long (lI (h))), (2, .ref (a (1)))] : List (Nat × Value))) (show (hf (31 * rf h (fun u9 => g (6 + u9) 1) (fun u9 j9 => g (16 + u9) j9) t + g (6 + t) 1) ((fun u9 j9 => g (16 + u9) j9) t) y) = (rf h (fun u9 => g (6 + u9) 1) (fun u9 j9 => g (16 + u9) j9) (t + 1)) by rw [rf_s _ _ _ (by omega)]; unfold hf; rw [show y.toNat = (g (6 + t) 1).toNat by omega])) ?_
      refine v_iinc (z' := t + 1) (lv' := [(5, .int (iI (t + 1))), (6, .int (iI (y))), (3, .long (lI (rf h (fun u9 => g (6 + u9) 1) (fun u9 j9 => g (16 + u9) j9) (t + 1)))), (0, .long (lI (h))), (2, .ref (a (1)))]) C 2 dX4_digestRows_66 rfl (by omega) (by decide) rfl ?_
      refine v_goto (tgt := 5) C dX4_digestRows_69 (by decide) ?_
      refine v_sub (lv' := [(5, .int (iI (t + 1))), (3, .long (lI (rf h (fun u9 => g (6 + u9) 1) (fun u9 j9 => g (16 + u9) j9) (t + 1)))), (0, .long (lI (h))), (2, .ref (a (1)))]) [0, 2, 3, 4] rfl ?_
      exact ih5 (t + 1) (by omega) (by omega)
    · skip
      refine v_ldc2 (z := 31) C wk290 dX4_digestRows_42 (by decide) ?_
      refine v_lload_n C 1 dX4_digestRows_45 rfl ?_
      refine v_lmul C dX4_digestRows_46 ?_
      refine v_aload_n C 4 dX4_digestRows_47 rfl ?_
      refine v_iload C 2 dX4_digestRows_48 rfl ?_
      refine v_aaload (f := fun j => 6 + j) C (by omega) (by omega) 4 rfl ct_rowsA (by omega) (by omega) (by decide) dX4_digestRows_50 ?_
      refine v_getf C (by omega) (by omega) (ct_row (by omega) (by omega)) rfl 0 (by decide) wf63 hinX3 rfl dX4_digestRows_51 ?_
      refine v_iload C 0 dX4_digestRows_54 rfl ?_
      refine v_iaload C (by omega) (by omega) (ct_places (by omega) (by omega)) (by omega) (by omega) (by unfold rlen; split <;> decide) dX4_digestRows_56 ?_
      refine v_i2l C dX4_digestRows_57 (HC.it (by omega) (by omega) y) ?_
      refine v_ladd C dX4_digestRows_58 ?_
      refine v_st (st' := [.long (lI (hf (31 * rf h (fun u9 => g (6 + u9) 1) (fun u9 j9 => g (16 + u9) j9) t + g (6 + t) 1) ((fun u9 j9 => g (16 + u9) j9) t) (y + 1)))]) (by rw [hf_s _ _ (by omega)]) ?_
      refine v_lstore_n (lv' := [(3, .long (lI (hf (31 * rf h (fun u9 => g (6 + u9) 1) (fun u9 j9 => g (16 + u9) j9) t + g (6 + t) 1) ((fun u9 j9 => g (16 + u9) j9) t) (y + 1)))), (6, .int (iI (y))), (5, .int (iI (t))), (0, .long (lI (h))), (2, .ref (a (1)))]) C dX4_digestRows_59 (by decide) rfl ?_
      refine v_iinc (z' := y + 1) (lv' := [(6, .int (iI (y + 1))), (3, .long (lI (hf (31 * rf h (fun u9 => g (6 + u9) 1) (fun u9 j9 => g (16 + u9) j9) t + g (6 + t) 1) ((fun u9 j9 => g (16 + u9) j9) t) (y + 1)))), (5, .int (iI (t))), (0, .long (lI (h))), (2, .ref (a (1)))]) C 1 dX4_digestRows_60 rfl (by omega) (by decide) rfl ?_
      refine v_goto (tgt := 30) C dX4_digestRows_63 (by decide) ?_
      exact ih30 (y + 1) (by omega) (by omega)

set_option maxRecDepth 100000 in
set_option maxHeartbeats 4000000 in
theorem c_X4_digestRows_t (l : Launch) (D : va_G) (yc : Nat → ClassId) (t1 t2 : Nat) (a : Int → Nat) (A : Nat → Prop) (g : Mm) (h : Int) (HC : CI g) : Cl l yX4_digestRows wsX4_digestRows { frames := 0, cells := 0, slots := 0, locals := 0 } D yc t1 t2 A (cw a yc) [.long (lI (h)), .ref (a (2))] g (fun r9 g' => r9 = (lI (rf h (fun u9 => g (6 + (6 + u9)) 1) (fun u9 j9 => g (16 + (6 + u9)) j9) 4)) ∧ g' = g) := by
  refine start_l (cc := cX4_digestRows) (nL := 7) (ret := (some .long)) (own := RX4) (by decide +kernel) rfl rfl (Nat.le_of_ble_eq_true rfl) ?_
  intro p e s m9 below meth c9 C
  have wk290 : Cond.constantLong RX4 290 31 ∈ wsX4_digestRows := by decide +kernel
  have wf78 : Cond.fieldLink RX4 78 (TX3 1).1 (TX3 1).2.1 (TX3 1).2.2.1 ∈ wsX4_digestRows := by decide +kernel
  have hinX3 : ∀ w ∈ u_ws RX3 TX3 2, w ∈ wsX4_digestRows := by decide +kernel
  have wf63 : Cond.fieldLink RX4 63 (TX3 0).1 (TX3 0).2.1 (TX3 0).2.2.1 ∈ wsX4_digestRows := by decide +kernel
  refine v_lv (lv' := [(0, .long (lI (h))), (2, .ref (a (2)))]) rfl ?_
  refine v_lload_n C 0 dX4_digestRows_0 rfl ?_
  refine v_lstore_n (lv' := [(3, .long (lI (h))), (0, .long (lI (h))), (2, .ref (a (2)))]) C dX4_digestRows_1 (by decide) rfl ?_
  refine v_iconst C dX4_digestRows_2 ?_
  refine v_istore (lv' := [(5, .int (iI (0))), (3, .long (lI (h))), (0, .long (lI (h))), (2, .ref (a (2)))]) C dX4_digestRows_3 (by decide) rfl ?_
  refine v_lv (congrArg (fun x9 => ([(5, .int (iI x9)), (3, .long (lI (h))), (0, .long (lI (h))), (2, .ref (a (2)))] : List (Nat × Value))) (show (0) = (((0 : Int))) by first | rfl | omega | (simp; done))) ?_
  refine v_lv (congrArg (fun x9 => ([(5, .int (iI (((0 : Int))))), (3, .long (lI x9)), (0, .long (lI (h))), (2, .ref (a (2)))] : List (Nat × Value))) (show (h) = (rf h (fun u9 => g (6 + (6 + u9)) 1) (fun u9 j9 => g (16 + (6 + u9)) j9) ((0 : Int))) by first | rfl | omega | (simp; done))) ?_
  refine v_loop1 (fun (t : Int) => (4 - t).toNat) (fun (t : Int) => 0 ≤ t ∧ t ≤ 4) (fun (t : Int) => [(5, .int (iI (t))), (3, .long (lI (rf h (fun u9 => g (6 + (6 + u9)) 1) (fun u9 j9 => g (16 + (6 + u9)) j9) t))), (0, .long (lI (h))), (2, .ref (a (2)))]) (fun (t : Int) => g) ?_ 0 (by omega)
  intro t hI5 ih5
  try dsimp only at ih5 ⊢
  refine v_iload C 0 dX4_digestRows_5 rfl ?_
  refine v_aload_n C 3 dX4_digestRows_7 rfl ?_
  refine v_alen C (by omega) (by omega) 4 rfl ct_textsA dX4_digestRows_8 ?_
  refine v_st (st' := [.int (iI (4)), .int (iI (t))]) rfl ?_
  refine v_icmp_ge (tgt := 72) C dX4_digestRows_9 (by decide) (by omega) (by omega) (fun c9 => ?_) (fun c9 => ?_)
  · skip
    refine v_lload_n C 1 dX4_digestRows_72 rfl ?_
    exact v_ret_l C rfl dX4_digestRows_73 ⟨(by rw [show t = 4 by omega]), rfl⟩
  · skip
    have hz9 := HC.ln (t := t) (by omega) (by omega)
    have hl9 := rl60 (r := 6 + t) (by omega)
    refine v_ldc2 (z := 31) C wk290 dX4_digestRows_12 (by decide) ?_
    refine v_lload_n C 1 dX4_digestRows_15 rfl ?_
    refine v_lmul C dX4_digestRows_16 ?_
    refine v_aload_n C 3 dX4_digestRows_17 rfl ?_
    refine v_iload C 0 dX4_digestRows_18 rfl ?_
    refine v_aaload (f := fun j => 6 + (6 + j)) C (by omega) (by omega) 4 rfl ct_textsA (by omega) (by omega) (by decide) dX4_digestRows_20 ?_
    refine v_getf C (by omega) (by omega) (ct_row (by omega) (by omega)) rfl 1 (by decide) wf78 hinX3 rfl dX4_digestRows_21 ?_
    refine v_i2l C dX4_digestRows_24 (by omega) ?_
    refine v_ladd C dX4_digestRows_25 ?_
    refine v_lstore_n (lv' := [(3, .long (lI ((31 * (rf h (fun u9 => g (6 + (6 + u9)) 1) (fun u9 j9 => g (16 + (6 + u9)) j9) t)) + (g (6 + (6 + t)) (1))))), (5, .int (iI (t))), (0, .long (lI (h))), (2, .ref (a (2)))]) C dX4_digestRows_26 (by decide) rfl ?_
    refine v_iconst C dX4_digestRows_27 ?_
    refine v_istore (lv' := [(6, .int (iI (0))), (3, .long (lI ((31 * (rf h (fun u9 => g (6 + (6 + u9)) 1) (fun u9 j9 => g (16 + (6 + u9)) j9) t)) + (g (6 + (6 + t)) (1))))), (5, .int (iI (t))), (0, .long (lI (h))), (2, .ref (a (2)))]) C dX4_digestRows_28 (by decide) rfl ?_
    refine v_lv (congrArg (fun x9 => ([(6, .int (iI x9)), (3, .long (lI ((31 * (rf h (fun u9 => g (6 + (6 + u9)) 1) (fun u9 j9 => g (16 + (6 + u9)) j9) t)) + (g (6 + (6 + t)) (1))))), (5, .int (iI (t))), (0, .long (lI (h))), (2, .ref (a (2)))] : List (Nat × Value))) (show (0) = (((0 : Int))) by first | rfl | omega | (simp; done))) ?_
    refine v_lv (congrArg (fun x9 => ([(6, .int (iI (((0 : Int))))), (3, .long (lI x9)), (5, .int (iI (t))), (0, .long (lI (h))), (2, .ref (a (2)))] : List (Nat × Value))) (show ((31 * (rf h (fun u9 => g (6 + (6 + u9)) 1) (fun u9 j9 => g (16 + (6 + u9)) j9) t)) + (g (6 + (6 + t)) (1))) = (hf (31 * rf h (fun u9 => g (6 + (6 + u9)) 1) (fun u9 j9 => g (16 + (6 + u9)) j9) t + g (6 + (6 + t)) 1) ((fun u9 j9 => g (16 + (6 + u9)) j9) t) ((0 : Int))) by first | rfl | omega | (simp; done))) ?_
    refine v_loop1 (fun (y : Int) => (g (6 + (6 + t)) 1 - y).toNat) (fun (y : Int) => 0 ≤ y ∧ (y ≤ g (6 + (6 + t)) 1 ∨ y = 0)) (fun (y : Int) => [(6, .int (iI (y))), (3, .long (lI (hf (31 * rf h (fun u9 => g (6 + (6 + u9)) 1) (fun u9 j9 => g (16 + (6 + u9)) j9) t + g (6 + (6 + t)) 1) ((fun u9 j9 => g (16 + (6 + u9)) j9) t) y))), (5, .int (iI (t))), (0, .long (lI (h))), (2, .ref (a (2)))]) (fun (y : Int) => g) ?_ 0 (by omega)
    intro y hI30 ih30
    try dsimp only at ih30 ⊢
    refine v_iload C 0 dX4_digestRows_30 rfl ?_
    refine v_aload_n C 4 dX4_digestRows_32 rfl ?_
    refine v_iload C 2 dX4_digestRows_33 rfl ?_
    refine v_aaload (f := fun j => 6 + (6 + j)) C (by omega) (by omega) 4 rfl ct_textsA (by omega) (by omega) (by decide) dX4_digestRows_35 ?_
    refine v_getf C (by omega) (by omega) (ct_row (by omega) (by omega)) rfl 1 (by decide) wf78 hinX3 rfl dX4_digestRows_36 ?_
    refine v_icmp_ge (tgt := 66) C dX4_digestRows_39 (by decide) (by omega) (by omega) (fun c39 => ?_) (fun c39 => ?_)
    · skip
      refine v_lv (congrArg (fun x9 => ([(6, .int (iI (y))), (3, .long (lI x9)), (5, .int (iI (t))), (0, .long (lI (h))), (2, .ref (a (2)))] : List (Nat × Value))) (show (hf (31 * rf h (fun u9 => g (6 + (6 + u9)) 1) (fun u9 j9 => g (16 + (6 + u9)) j9) t + g (6 + (6 + t)) 1) ((fun u9 j9 => g (16 + (6 + u9)) j9) t) y) = (rf h (fun u9 => g (6 + (6 + u9)) 1) (fun u9 j9 => g (16 + (6 + u9)) j9) (t + 1)) by rw [rf_s _ _ _ (by omega)]; unfold hf; rw [show y.toNat = (g (6 + (6 + t)) 1).toNat by omega])) ?_
      refine v_iinc (z' := t + 1) (lv' := [(5, .int (iI (t + 1))), (6, .int (iI (y))), (3, .long (lI (rf h (fun u9 => g (6 + (6 + u9)) 1) (fun u9 j9 => g (16 + (6 + u9)) j9) (t + 1)))), (0, .long (lI (h))), (2, .ref (a (2)))]) C 2 dX4_digestRows_66 rfl (by omega) (by decide) rfl ?_
      refine v_goto (tgt := 5) C dX4_digestRows_69 (by decide) ?_
      refine v_sub (lv' := [(5, .int (iI (t + 1))), (3, .long (lI (rf h (fun u9 => g (6 + (6 + u9)) 1) (fun u9 j9 => g (16 + (6 + u9)) j9) (t + 1)))), (0, .long (lI (h))), (2, .ref (a (2)))]) [0, 2, 3, 4] rfl ?_
      exact ih5 (t + 1) (by omega) (by omega)
    · skip
      refine v_ldc2 (z := 31) C wk290 dX4_digestRows_42 (by decide) ?_
      refine v_lload_n C 1 dX4_digestRows_45 rfl ?_
      refine v_lmul C dX4_digestRows_46 ?_
      refine v_aload_n C 4 dX4_digestRows_47 rfl ?_
      refine v_iload C 2 dX4_digestRows_48 rfl ?_
      refine v_aaload (f := fun j => 6 + (6 + j)) C (by omega) (by omega) 4 rfl ct_textsA (by omega) (by omega) (by decide) dX4_digestRows_50 ?_
      refine v_getf C (by omega) (by omega) (ct_row (by omega) (by omega)) rfl 0 (by decide) wf63 hinX3 rfl dX4_digestRows_51 ?_
      refine v_iload C 0 dX4_digestRows_54 rfl ?_
      refine v_iaload C (by omega) (by omega) (ct_places (by omega) (by omega)) (by omega) (by omega) (by unfold rlen; split <;> decide) dX4_digestRows_56 ?_
      refine v_i2l C dX4_digestRows_57 (by have := HC.by (t := t) (by omega) (by omega) y; omega) ?_
      refine v_ladd C dX4_digestRows_58 ?_
      refine v_st (st' := [.long (lI (hf (31 * rf h (fun u9 => g (6 + (6 + u9)) 1) (fun u9 j9 => g (16 + (6 + u9)) j9) t + g (6 + (6 + t)) 1) ((fun u9 j9 => g (16 + (6 + u9)) j9) t) (y + 1)))]) (by rw [hf_s _ _ (by omega)]) ?_
      refine v_lstore_n (lv' := [(3, .long (lI (hf (31 * rf h (fun u9 => g (6 + (6 + u9)) 1) (fun u9 j9 => g (16 + (6 + u9)) j9) t + g (6 + (6 + t)) 1) ((fun u9 j9 => g (16 + (6 + u9)) j9) t) (y + 1)))), (6, .int (iI (y))), (5, .int (iI (t))), (0, .long (lI (h))), (2, .ref (a (2)))]) C dX4_digestRows_59 (by decide) rfl ?_
      refine v_iinc (z' := y + 1) (lv' := [(6, .int (iI (y + 1))), (3, .long (lI (hf (31 * rf h (fun u9 => g (6 + (6 + u9)) 1) (fun u9 j9 => g (16 + (6 + u9)) j9) t + g (6 + (6 + t)) 1) ((fun u9 j9 => g (16 + (6 + u9)) j9) t) (y + 1)))), (5, .int (iI (t))), (0, .long (lI (h))), (2, .ref (a (2)))]) C 1 dX4_digestRows_60 rfl (by omega) (by decide) rfl ?_
      refine v_goto (tgt := 30) C dX4_digestRows_63 (by decide) ?_
      exact ih30 (y + 1) (by omega) (by omega)

set_option maxRecDepth 100000 in
set_option maxHeartbeats 4000000 in
theorem c_X4_digest (l : Launch) (D : va_G) (yc : Nat → ClassId) (t1 t2 : Nat) (a : Int → Nat) (A : Nat → Prop) (g : Mm) (F : Int → Int) (G : Int → Int → Int) (HF : FR g 0 F) (HI : FI F) (HC : CI g) (HG : ∀ k, 0 ≤ k → k < 3 → FR g (1 + k) (G k) ∧ FI (G k)) : Cl l yX4_digest wsX4_digest { frames := 3, cells := 0, slots := 0, locals := 66 } D yc t1 t2 A (cw a yc) [.ref (a (0))] g (fun r9 g' => r9 = (lI (dgC g F G)) ∧ g' = g) := by
  refine start_l (cc := cX4_digest) (nL := 5) (ret := (some .long)) (own := RX4) (by decide +kernel) rfl rfl (Nat.le_of_ble_eq_true rfl) ?_
  intro p e s m9 below meth c9 C
  have wk288 : Cond.constantLong RX4 288 17 ∈ wsX4_digest := by decide +kernel
  have wf21 : Cond.fieldLink RX4 21 (TX4 2).1 (TX4 2).2.1 (TX4 2).2.2.1 ∈ wsX4_digest := by decide +kernel
  have hinX4 : ∀ w ∈ u_ws RX4 TX4 10, w ∈ wsX4_digest := by decide +kernel
  have wf145 : Cond.fieldLink RX4 145 (TX1 5).1 (TX1 5).2.1 (TX1 5).2.2.1 ∈ wsX4_digest := by decide +kernel
  have hinX1 : ∀ w ∈ u_ws RX1 TX1 11, w ∈ wsX4_digest := by decide +kernel
  have wf108 : Cond.fieldLink RX4 108 (TX1 7).1 (TX1 7).2.1 (TX1 7).2.2.1 ∈ wsX4_digest := by decide +kernel
  have wf11 : Cond.fieldLink RX4 11 (TX4 0).1 (TX4 0).2.1 (TX4 0).2.2.1 ∈ wsX4_digest := by decide +kernel
  have wf15 : Cond.fieldLink RX4 15 (TX4 1).1 (TX4 1).2.1 (TX4 1).2.2.1 ∈ wsX4_digest := by decide +kernel
  have wk290 : Cond.constantLong RX4 290 31 ∈ wsX4_digest := by decide +kernel
  have wf25 : Cond.fieldLink RX4 25 (TX4 3).1 (TX4 3).2.1 (TX4 3).2.2.1 ∈ wsX4_digest := by decide +kernel
  have wf151 : Cond.fieldLink RX4 151 (TX1 8).1 (TX1 8).2.1 (TX1 8).2.2.1 ∈ wsX4_digest := by decide +kernel
  have wf111 : Cond.fieldLink RX4 111 (TX1 2).1 (TX1 2).2.1 (TX1 2).2.2.1 ∈ wsX4_digest := by decide +kernel
  have wf154 : Cond.fieldLink RX4 154 (TX1 0).1 (TX1 0).2.1 (TX1 0).2.2.1 ∈ wsX4_digest := by decide +kernel
  have hn := HI.n
  refine v_lv (lv' := [(0, .ref (a (0)))]) rfl ?_
  refine v_ldc2 (z := 17) C wk288 dX4_digest_0 (by decide) ?_
  refine v_lstore_n (lv' := [(1, .long (lI (17))), (0, .ref (a (0)))]) C dX4_digest_3 (by decide) rfl ?_
  refine v_iconst C dX4_digest_4 ?_
  refine v_istore_n (lv' := [(3, .int (iI (0))), (1, .long (lI (17))), (0, .ref (a (0)))]) C dX4_digest_5 (by decide) rfl ?_
  refine v_lv (congrArg (fun x9 => ([(3, .int (iI x9)), (1, .long (lI (17))), (0, .ref (a (0)))] : List (Nat × Value))) (show (0) = (((0 : Int))) by first | rfl | omega | (simp; done))) ?_
  refine v_lv (congrArg (fun x9 => ([(3, .int (iI (((0 : Int))))), (1, .long (lI x9)), (0, .ref (a (0)))] : List (Nat × Value))) (show (17) = (hf 17 (cnC g F G) ((0 : Int))) by first | rfl | omega | (simp; done))) ?_
  refine v_loop1 (fun (t : Int) => (10 - t).toNat) (fun (t : Int) => 0 ≤ t ∧ t ≤ 10) (fun (t : Int) => [(3, .int (iI (t))), (1, .long (lI (hf 17 (cnC g F G) t))), (0, .ref (a (0)))]) (fun (t : Int) => g) ?_ 0 (by omega)
  intro t hI6 ih6
  try dsimp only at ih6 ⊢
  refine v_iload_n C 0 dX4_digest_6 rfl ?_
  refine v_bipush C dX4_digest_7 (by decide) ?_
  refine v_icmp_gt (tgt := 31) C dX4_digest_9 (by decide) (by omega) (by omega) (fun c9 => ?_) (fun c9 => ?_)
  · skip
    refine v_lv (congrArg (fun x9 => ([(3, .int (iI (t))), (1, .long (lI x9)), (0, .ref (a (0)))] : List (Nat × Value))) (show (hf 17 (cnC g F G) t) = (hf 17 (cnC g F G) 10) by rw [show t = 10 by omega])) ?_
    refine v_iconst C dX4_digest_31 ?_
    refine v_istore_n (lv' := [(3, .int (iI (0))), (1, .long (lI (hf 17 (cnC g F G) 10))), (0, .ref (a (0)))]) C dX4_digest_32 (by decide) rfl ?_
    refine v_lv (congrArg (fun x9 => ([(3, .int (iI x9)), (1, .long (lI (hf 17 (cnC g F G) 10))), (0, .ref (a (0)))] : List (Nat × Value))) (show (0) = (((0 : Int))) by first | rfl | omega | (simp; done))) ?_
    refine v_lv (congrArg (fun x9 => ([(3, .int (iI (((0 : Int))))), (1, .long (lI x9)), (0, .ref (a (0)))] : List (Nat × Value))) (show (hf 17 (cnC g F G) 10) = (hf (hf 17 (cnC g F G) 10) (fun k => F (6 + k)) ((0 : Int))) by first | rfl | omega | (simp; done))) ?_
    refine v_loop1 (fun (t : Int) => (F 1 - t).toNat) (fun (t : Int) => 0 ≤ t ∧ t ≤ F 1) (fun (t : Int) => [(3, .int (iI (t))), (1, .long (lI (hf (hf 17 (cnC g F G) 10) (fun k => F (6 + k)) t))), (0, .ref (a (0)))]) (fun (t : Int) => g) ?_ 0 (by omega)
    intro t hI33 ih33
    try dsimp only at ih33 ⊢
    refine v_iload_n C 0 dX4_digest_33 rfl ?_
    refine v_aload_n C 2 dX4_digest_34 rfl ?_
    refine v_getf C (by omega) (by omega) ct_cow rfl 2 (by decide) wf21 hinX4 rfl dX4_digest_35 ?_
    refine v_st (st' := [.ref (a (26 + 0)), .int (iI (t))]) rfl ?_
    refine v_getf C (by omega) (by omega) (ct_farm (by omega) (by omega)) rfl 5 (by decide) wf145 hinX1 rfl dX4_digest_38 ?_
    refine v_st (st' := [.int (iI (F 1)), .int (iI (t))]) (by rw [HF.tc]) ?_
    refine v_icmp_ge (tgt := 67) C dX4_digest_41 (by decide) (by omega) (by omega) (fun c41 => ?_) (fun c41 => ?_)
    · skip
      refine v_lv (congrArg (fun x9 => ([(3, .int (iI (t))), (1, .long (lI x9)), (0, .ref (a (0)))] : List (Nat × Value))) (show (hf (hf 17 (cnC g F G) 10) (fun k => F (6 + k)) t) = (hf (hf 17 (cnC g F G) 10) (fun k => F (6 + k)) (F 1)) by rw [show t = F 1 by omega])) ?_
      refine v_iconst C dX4_digest_67 ?_
      refine v_istore_n (lv' := [(3, .int (iI (0))), (1, .long (lI (hf (hf 17 (cnC g F G) 10) (fun k => F (6 + k)) (F 1)))), (0, .ref (a (0)))]) C dX4_digest_68 (by decide) rfl ?_
      refine v_lv (congrArg (fun x9 => ([(3, .int (iI x9)), (1, .long (lI (hf (hf 17 (cnC g F G) 10) (fun k => F (6 + k)) (F 1)))), (0, .ref (a (0)))] : List (Nat × Value))) (show (0) = (((0 : Int))) by first | rfl | omega | (simp; done))) ?_
      refine v_lv (congrArg (fun x9 => ([(3, .int (iI (((0 : Int))))), (1, .long (lI x9)), (0, .ref (a (0)))] : List (Nat × Value))) (show (hf (hf 17 (cnC g F G) 10) (fun k => F (6 + k)) (F 1)) = (hf (hf (hf 17 (cnC g F G) 10) (fun k => F (6 + k)) (F 1)) (fun k => bh F (k / 5) (k % 5)) (5 * ((0 : Int)))) by first | rfl | omega | (simp; done))) ?_
      refine v_loop1 (fun (x : Int) => (F 0 - x).toNat) (fun (x : Int) => 0 ≤ x ∧ x ≤ F 0) (fun (x : Int) => [(3, .int (iI (x))), (1, .long (lI (hf (hf (hf 17 (cnC g F G) 10) (fun k => F (6 + k)) (F 1)) (fun k => bh F (k / 5) (k % 5)) (5 * x)))), (0, .ref (a (0)))]) (fun (x : Int) => g) ?_ 0 (by omega)
      intro x hI69 ih69
      try dsimp only at ih69 ⊢
      refine v_iload_n C 0 dX4_digest_69 rfl ?_
      refine v_aload_n C 2 dX4_digest_70 rfl ?_
      refine v_getf C (by omega) (by omega) ct_cow rfl 2 (by decide) wf21 hinX4 rfl dX4_digest_71 ?_
      refine v_st (st' := [.ref (a (26 + 0)), .int (iI (x))]) rfl ?_
      refine v_getf C (by omega) (by omega) (ct_farm (by omega) (by omega)) rfl 7 (by decide) wf108 hinX1 rfl dX4_digest_74 ?_
      refine v_st (st' := [.int (iI (F 0)), .int (iI (x))]) (by rw [HF.bc]) ?_
      refine v_icmp_ge (tgt := 123) C dX4_digest_77 (by decide) (by omega) (by omega) (fun c77 => ?_) (fun c77 => ?_)
      · skip
        refine v_lv (congrArg (fun x9 => ([(3, .int (iI (x))), (1, .long (lI x9)), (0, .ref (a (0)))] : List (Nat × Value))) (show (hf (hf (hf 17 (cnC g F G) 10) (fun k => F (6 + k)) (F 1)) (fun k => bh F (k / 5) (k % 5)) (5 * x)) = (hf (hf (hf 17 (cnC g F G) 10) (fun k => F (6 + k)) (F 1)) (fun k => bh F (k / 5) (k % 5)) (5 * F 0)) by rw [show x = F 0 by omega])) ?_
        refine v_iconst C dX4_digest_123 ?_
        refine v_istore_n (lv' := [(3, .int (iI (0))), (1, .long (lI (hf (hf (hf 17 (cnC g F G) 10) (fun k => F (6 + k)) (F 1)) (fun k => bh F (k / 5) (k % 5)) (5 * F 0)))), (0, .ref (a (0)))]) C dX4_digest_124 (by decide) rfl ?_
        refine v_lv (congrArg (fun x9 => ([(3, .int (iI x9)), (1, .long (lI (hf (hf (hf 17 (cnC g F G) 10) (fun k => F (6 + k)) (F 1)) (fun k => bh F (k / 5) (k % 5)) (5 * F 0)))), (0, .ref (a (0)))] : List (Nat × Value))) (show (0) = (((0 : Int))) by first | rfl | omega | (simp; done))) ?_
        refine v_lv (congrArg (fun x9 => ([(3, .int (iI (((0 : Int))))), (1, .long (lI x9)), (0, .ref (a (0)))] : List (Nat × Value))) (show (hf (hf (hf 17 (cnC g F G) 10) (fun k => F (6 + k)) (F 1)) (fun k => bh F (k / 5) (k % 5)) (5 * F 0)) = (hf (hf (hf (hf 17 (cnC g F G) 10) (fun k => F (6 + k)) (F 1)) (fun k => bh F (k / 5) (k % 5)) (5 * F 0)) (fun k => if G k 0 = 0 then -1 else G k 4) ((0 : Int))) by first | rfl | omega | (simp; done))) ?_
        refine v_loop1 (fun (t : Int) => (3 - t).toNat) (fun (t : Int) => 0 ≤ t ∧ t ≤ 3) (fun (t : Int) => [(3, .int (iI (t))), (1, .long (lI (hf (hf (hf (hf 17 (cnC g F G) 10) (fun k => F (6 + k)) (F 1)) (fun k => bh F (k / 5) (k % 5)) (5 * F 0)) (fun k => if G k 0 = 0 then -1 else G k 4) t))), (0, .ref (a (0)))]) (fun (t : Int) => g) ?_ 0 (by omega)
        intro t hI125 ih125
        try dsimp only at ih125 ⊢
        refine v_iload_n C 0 dX4_digest_125 rfl ?_
        refine v_iconst C dX4_digest_126 ?_
        refine v_icmp_ge (tgt := 169) C dX4_digest_127 (by decide) (by omega) (by omega) (fun c127 => ?_) (fun c127 => ?_)
        · skip
          refine v_lv (congrArg (fun x9 => ([(3, .int (iI (t))), (1, .long (lI x9)), (0, .ref (a (0)))] : List (Nat × Value))) (show (hf (hf (hf (hf 17 (cnC g F G) 10) (fun k => F (6 + k)) (F 1)) (fun k => bh F (k / 5) (k % 5)) (5 * F 0)) (fun k => if G k 0 = 0 then -1 else G k 4) t) = (hf (hf (hf (hf 17 (cnC g F G) 10) (fun k => F (6 + k)) (F 1)) (fun k => bh F (k / 5) (k % 5)) (5 * F 0)) (fun k => if G k 0 = 0 then -1 else G k 4) 3) by rw [show t = 3 by omega])) ?_
          refine v_lload_n C 1 dX4_digest_169 rfl ?_
          refine v_aload_n C 2 dX4_digest_170 rfl ?_
          refine v_getf C (by omega) (by omega) ct_cow rfl 0 (by decide) wf11 hinX4 rfl dX4_digest_171 ?_
          refine v_cS_l C (As := [.long (lI (hf (hf (hf (hf 17 (cnC g F G) 10) (fun k => F (6 + k)) (F 1)) (fun k => bh F (k / 5) (k % 5)) (5 * F 0)) (fun k => if G k 0 = 0 then -1 else G k 4) 3)), .ref (a (1))]) (rest := []) (c_X4_digestRows_r l D yc t1 t2 a A g (hf (hf (hf (hf 17 (cnC g F G) 10) (fun k => F (6 + k)) (F 1)) (fun k => bh F (k / 5) (k % 5)) (5 * F 0)) (fun k => if G k 0 = 0 then -1 else G k 4) 3) HC) (va_cwS 2 C.hts gX4_digest_X4_digestRows rfl rfl rfl (by decide +kernel) ⟨by decide, by decide⟩) rfl rfl (Nat.le_of_ble_eq_true rfl) dX4_digest_174 ?_
          intro r9 g9 h9
          rw [h9.1, h9.2]
          clear h9 g9 r9
          try dsimp only
          refine v_aload_n C 2 dX4_digest_177 rfl ?_
          refine v_getf C (by omega) (by omega) ct_cow rfl 1 (by decide) wf15 hinX4 rfl dX4_digest_178 ?_
          refine v_cS_l C (As := [.long (lI (rf (hf (hf (hf (hf 17 (cnC g F G) 10) (fun k => F (6 + k)) (F 1)) (fun k => bh F (k / 5) (k % 5)) (5 * F 0)) (fun k => if G k 0 = 0 then -1 else G k 4) 3) (fun u9 => g (6 + u9) 1) (fun u9 j9 => g (16 + u9) j9) 6)), .ref (a (2))]) (rest := []) (c_X4_digestRows_t l D yc t1 t2 a A g (rf (hf (hf (hf (hf 17 (cnC g F G) 10) (fun k => F (6 + k)) (F 1)) (fun k => bh F (k / 5) (k % 5)) (5 * F 0)) (fun k => if G k 0 = 0 then -1 else G k 4) 3) (fun u9 => g (6 + u9) 1) (fun u9 j9 => g (16 + u9) j9) 6) HC) (va_cwS 2 C.hts gX4_digest_X4_digestRows rfl rfl rfl (by decide +kernel) ⟨by decide, by decide⟩) rfl rfl (Nat.le_of_ble_eq_true rfl) dX4_digest_181 ?_
          intro r9 g9 h9
          rw [h9.1, h9.2]
          clear h9 g9 r9
          try dsimp only
          exact v_ret_l C rfl dX4_digest_184 ⟨rfl, rfl⟩
        · skip
          have hg9 := HG t (by omega) (by omega)
          have hgn := hg9.2.n
          refine v_ldc2 (z := 31) C wk290 dX4_digest_130 (by decide) ?_
          refine v_lload_n C 1 dX4_digest_133 rfl ?_
          refine v_lmul C dX4_digest_134 ?_
          refine v_aload_n C 2 dX4_digest_135 rfl ?_
          refine v_getf C (by omega) (by omega) ct_cow rfl 3 (by decide) wf25 hinX4 rfl dX4_digest_136 ?_
          refine v_iload_n C 0 dX4_digest_139 rfl ?_
          refine v_aaload (f := fun j => 26 + (1 + j)) C (by omega) (by omega) 3 rfl ct_keptA (by omega) (by omega) (by decide) dX4_digest_140 ?_
          refine v_cV_i C (As := []) (rest := [.long (lI (31 * (hf (hf (hf (hf 17 (cnC g F G) 10) (fun k => F (6 + k)) (F 1)) (fun k => bh F (k / 5) (k % 5)) (5 * F 0)) (fun k => if G k 0 = 0 then -1 else G k 4) t)))]) (c_X1_isMissing l D yc t1 t2 a A g (1 + t) ((G t)) (by omega) hg9.1 hg9.2) (cwV 0 C.hts gX4_digest_X1_isMissing rfl rfl rfl (by decide +kernel) ⟨by decide, by decide⟩) (fun H hP => va_recv C.hK hP (ci := 1) (q0 := (26 + (1 + t) : Int).toNat) rfl (wo_is (by omega) (by omega) (ct_farm (by omega) (by omega)))) rfl rfl (Nat.le_of_ble_eq_true rfl) dX4_digest_141 ?_
          intro r9 g9 h9
          rw [h9.1, h9.2]
          clear h9 g9 r9
          try dsimp only
          refine v_cut1 160 (fun (v160 : Int) => v160 = if G t 0 = 0 then -1 else G t 4) (fun (v160 : Int) => [(3, .int (iI (t))), (1, .long (lI (hf (hf (hf (hf 17 (cnC g F G) 10) (fun k => F (6 + k)) (F 1)) (fun k => bh F (k / 5) (k % 5)) (5 * F 0)) (fun k => if G k 0 = 0 then -1 else G k 4) t))), (0, .ref (a (0)))]) (fun (v160 : Int) => [.int (iI (v160)), .long (lI (31 * (hf (hf (hf (hf 17 (cnC g F G) 10) (fun k => F (6 + k)) (F 1)) (fun k => bh F (k / 5) (k % 5)) (5 * F 0)) (fun k => if G k 0 = 0 then -1 else G k 4) t)))]) (fun (v160 : Int) => g) ?_ ?_
          · intro v160 hj160
            try dsimp only
            have hv160 : -1 ≤ v160 ∧ v160 ≤ 60 := by rw [hj160]; split <;> omega
            refine v_i2l C dX4_digest_160 (by omega) ?_
            refine v_ladd C dX4_digest_161 ?_
            refine v_st (st' := [.long (lI (hf (hf (hf (hf 17 (cnC g F G) 10) (fun k => F (6 + k)) (F 1)) (fun k => bh F (k / 5) (k % 5)) (5 * F 0)) (fun k => if G k 0 = 0 then -1 else G k 4) (t + 1)))]) (by rw [hf_s _ _ (by omega), hj160]) ?_
            refine v_lstore_n (lv' := [(1, .long (lI (hf (hf (hf (hf 17 (cnC g F G) 10) (fun k => F (6 + k)) (F 1)) (fun k => bh F (k / 5) (k % 5)) (5 * F 0)) (fun k => if G k 0 = 0 then -1 else G k 4) (t + 1)))), (3, .int (iI (t))), (0, .ref (a (0)))]) C dX4_digest_162 (by decide) rfl ?_
            refine v_iinc (z' := t + 1) (lv' := [(3, .int (iI (t + 1))), (1, .long (lI (hf (hf (hf (hf 17 (cnC g F G) 10) (fun k => F (6 + k)) (F 1)) (fun k => bh F (k / 5) (k % 5)) (5 * F 0)) (fun k => if G k 0 = 0 then -1 else G k 4) (t + 1)))), (0, .ref (a (0)))]) C 1 dX4_digest_163 rfl (by omega) (by decide) rfl ?_
            refine v_goto (tgt := 125) C dX4_digest_166 (by decide) ?_
            exact ih125 (t + 1) (by omega) (by omega)
          · intro jn160
            try dsimp only at jn160
            refine v_ifb_eq (tgt := 151) C dX4_digest_144 (by decide) (fun c144 => ?_) (fun c144 => ?_)
            · skip
              refine v_aload_n C 2 dX4_digest_151 rfl ?_
              refine v_getf C (by omega) (by omega) ct_cow rfl 3 (by decide) wf25 hinX4 rfl dX4_digest_152 ?_
              refine v_iload_n C 0 dX4_digest_155 rfl ?_
              refine v_aaload (f := fun j => 26 + (1 + j)) C (by omega) (by omega) 3 rfl ct_keptA (by omega) (by omega) (by decide) dX4_digest_156 ?_
              refine v_getf C (by omega) (by omega) (ct_farm (by omega) (by omega)) rfl 8 (by decide) wf151 hinX1 rfl dX4_digest_157 ?_
              exact jn160 (g (26 + (1 + t)) (8)) (by first | rw [if_pos (by omega)] | (rw [if_neg (by omega), hg9.1.dc]))
            · skip
              refine v_iconst C dX4_digest_147 ?_
              refine v_goto (tgt := 160) C dX4_digest_148 (by decide) ?_
              exact jn160 (-1) (by first | rw [if_pos (by omega)] | (rw [if_neg (by omega), hg9.1.dc]))
      · skip
        refine v_iconst C dX4_digest_80 ?_
        refine v_istore (lv' := [(4, .int (iI (0))), (3, .int (iI (x))), (1, .long (lI (hf (hf (hf 17 (cnC g F G) 10) (fun k => F (6 + k)) (F 1)) (fun k => bh F (k / 5) (k % 5)) (5 * x)))), (0, .ref (a (0)))]) C dX4_digest_81 (by decide) rfl ?_
        refine v_lv (congrArg (fun x9 => ([(4, .int (iI x9)), (3, .int (iI (x))), (1, .long (lI (hf (hf (hf 17 (cnC g F G) 10) (fun k => F (6 + k)) (F 1)) (fun k => bh F (k / 5) (k % 5)) (5 * x)))), (0, .ref (a (0)))] : List (Nat × Value))) (show (0) = (((0 : Int))) by first | rfl | omega | (simp; done))) ?_
        refine v_lv (congrArg (fun x9 => ([(4, .int (iI (((0 : Int))))), (3, .int (iI (x))), (1, .long (lI x9)), (0, .ref (a (0)))] : List (Nat × Value))) (show (hf (hf (hf 17 (cnC g F G) 10) (fun k => F (6 + k)) (F 1)) (fun k => bh F (k / 5) (k % 5)) (5 * x)) = (hf (hf (hf 17 (cnC g F G) 10) (fun k => F (6 + k)) (F 1)) (fun k => bh F (k / 5) (k % 5)) (5 * x + ((0 : Int)))) by first | rfl | rw [show 5 * x + 0 = 5 * x by omega])) ?_
        refine v_loop1 (fun (y : Int) => (5 - y).toNat) (fun (y : Int) => 0 ≤ y ∧ y ≤ 5) (fun (y : Int) => [(4, .int (iI (y))), (3, .int (iI (x))), (1, .long (lI (hf (hf (hf 17 (cnC g F G) 10) (fun k => F (6 + k)) (F 1)) (fun k => bh F (k / 5) (k % 5)) (5 * x + y)))), (0, .ref (a (0)))]) (fun (y : Int) => g) ?_ 0 (by omega)
        intro y hI83 ih83
        try dsimp only at ih83 ⊢
        refine v_iload C 0 dX4_digest_83 rfl ?_
        refine v_iconst C dX4_digest_85 ?_
        refine v_icmp_gt (tgt := 117) C dX4_digest_86 (by decide) (by omega) (by omega) (fun c86 => ?_) (fun c86 => ?_)
        · skip
          refine v_lv (congrArg (fun x9 => ([(4, .int (iI (y))), (3, .int (iI (x))), (1, .long (lI x9)), (0, .ref (a (0)))] : List (Nat × Value))) (show (hf (hf (hf 17 (cnC g F G) 10) (fun k => F (6 + k)) (F 1)) (fun k => bh F (k / 5) (k % 5)) (5 * x + y)) = (hf (hf (hf 17 (cnC g F G) 10) (fun k => F (6 + k)) (F 1)) (fun k => bh F (k / 5) (k % 5)) (5 * (x + 1))) by rw [show 5 * (x + 1) = 5 * x + y by omega])) ?_
          refine v_iinc (z' := x + 1) (lv' := [(3, .int (iI (x + 1))), (4, .int (iI (y))), (1, .long (lI (hf (hf (hf 17 (cnC g F G) 10) (fun k => F (6 + k)) (F 1)) (fun k => bh F (k / 5) (k % 5)) (5 * (x + 1))))), (0, .ref (a (0)))]) C 1 dX4_digest_117 rfl (by omega) (by decide) rfl ?_
          refine v_goto (tgt := 69) C dX4_digest_120 (by decide) ?_
          refine v_sub (lv' := [(3, .int (iI (x + 1))), (1, .long (lI (hf (hf (hf 17 (cnC g F G) 10) (fun k => F (6 + k)) (F 1)) (fun k => bh F (k / 5) (k % 5)) (5 * (x + 1))))), (0, .ref (a (0)))]) [0, 2, 3] rfl ?_
          exact ih69 (x + 1) (by omega) (by omega)
        · skip
          refine v_ldc2 (z := 31) C wk290 dX4_digest_89 (by decide) ?_
          refine v_lload_n C 2 dX4_digest_92 rfl ?_
          refine v_lmul C dX4_digest_93 ?_
          refine v_aload_n C 3 dX4_digest_94 rfl ?_
          refine v_getf C (by omega) (by omega) ct_cow rfl 2 (by decide) wf21 hinX4 rfl dX4_digest_95 ?_
          refine v_st (st' := [.ref (a (26 + 0)), .long (lI (31 * (hf (hf (hf 17 (cnC g F G) 10) (fun k => F (6 + k)) (F 1)) (fun k => bh F (k / 5) (k % 5)) (5 * x + y))))]) rfl ?_
          refine v_getf C (by omega) (by omega) (ct_farm (by omega) (by omega)) rfl 2 (by decide) wf111 hinX1 rfl dX4_digest_98 ?_
          refine v_st (st' := [.ref (a (41 + 0)), .long (lI (31 * (hf (hf (hf 17 (cnC g F G) 10) (fun k => F (6 + k)) (F 1)) (fun k => bh F (k / 5) (k % 5)) (5 * x + y))))]) rfl ?_
          refine v_iload_n C 1 dX4_digest_101 rfl ?_
          refine v_aaload (f := fun j => 56 + 6 * 0 + j) C (by omega) (by omega) 2 rfl (ct_beastsA (by omega) (by omega)) (by omega) (by omega) (by decide) dX4_digest_102 ?_
          refine v_iload C 0 dX4_digest_103 rfl ?_
          refine v_cV_i C (As := [.int (iI (y))]) (rest := [.long (lI (31 * (hf (hf (hf 17 (cnC g F G) 10) (fun k => F (6 + k)) (F 1)) (fun k => bh F (k / 5) (k % 5)) (5 * x + y))))]) (c_X0_tell l D yc t1 t2 a A g 0 x y (by omega) (by omega) (by omega)) (cwV 1 C.hts gX4_digest_X0_tell rfl rfl rfl (by decide +kernel) ⟨by decide, by decide⟩) (fun H hP => va_recv C.hK hP (ci := 0) (q0 := (56 + 6 * 0 + x : Int).toNat) rfl (wo_is (by omega) (by omega) (ct_beast (by omega) (by omega) (by omega) (by omega)))) rfl rfl (Nat.le_of_ble_eq_true rfl) dX4_digest_105 ?_
          intro r9 g9 h9
          rw [h9.1, h9.2]
          clear h9 g9 r9
          try dsimp only
          refine v_st (st' := [.int (iI (bh F ((5 * x + y) / 5) ((5 * x + y) % 5))), .long (lI (31 * (hf (hf (hf 17 (cnC g F G) 10) (fun k => F (6 + k)) (F 1)) (fun k => bh F (k / 5) (k % 5)) (5 * x + y))))]) (by rw [tl_bh HF (by omega) (by omega) (by omega) (by omega)]) ?_
          refine v_i2l C dX4_digest_108 (by have := bh_bd HI (i := (5 * x + y) / 5) (k := (5 * x + y) % 5) (by omega) (by omega) (by omega); omega) ?_
          refine v_ladd C dX4_digest_109 ?_
          refine v_st (st' := [.long (lI (hf (hf (hf 17 (cnC g F G) 10) (fun k => F (6 + k)) (F 1)) (fun k => bh F (k / 5) (k % 5)) (5 * x + y + 1)))]) (by rw [hf_s _ _ (by omega)]) ?_
          refine v_lstore_n (lv' := [(1, .long (lI (hf (hf (hf 17 (cnC g F G) 10) (fun k => F (6 + k)) (F 1)) (fun k => bh F (k / 5) (k % 5)) (5 * x + y + 1)))), (4, .int (iI (y))), (3, .int (iI (x))), (0, .ref (a (0)))]) C dX4_digest_110 (by decide) rfl ?_
          refine v_iinc (z' := y + 1) (lv' := [(4, .int (iI (y + 1))), (1, .long (lI (hf (hf (hf 17 (cnC g F G) 10) (fun k => F (6 + k)) (F 1)) (fun k => bh F (k / 5) (k % 5)) (5 * x + y + 1)))), (3, .int (iI (x))), (0, .ref (a (0)))]) C 1 dX4_digest_111 rfl (by omega) (by decide) rfl ?_
          refine v_goto (tgt := 83) C dX4_digest_114 (by decide) ?_
          refine v_sub (lv' := [(4, .int (iI (y + 1))), (3, .int (iI (x))), (1, .long (lI (hf (hf (hf 17 (cnC g F G) 10) (fun k => F (6 + k)) (F 1)) (fun k => bh F (k / 5) (k % 5)) (5 * x + y + 1)))), (0, .ref (a (0)))]) [0, 2, 1, 3] rfl ?_
          refine v_lv (congrArg (fun x9 => ([(4, .int (iI (y + 1))), (3, .int (iI (x))), (1, .long (lI x9)), (0, .ref (a (0)))] : List (Nat × Value))) (show (hf (hf (hf 17 (cnC g F G) 10) (fun k => F (6 + k)) (F 1)) (fun k => bh F (k / 5) (k % 5)) (5 * x + y + 1)) = (hf (hf (hf 17 (cnC g F G) 10) (fun k => F (6 + k)) (F 1)) (fun k => bh F (k / 5) (k % 5)) (5 * x + (y + 1))) by first | rfl | (rw [show 5 * x + (y + 1) = 5 * x + y + 1 by omega]))) ?_
          exact ih83 (y + 1) (by omega) (by omega)
    · skip
      refine v_ldc2 (z := 31) C wk290 dX4_digest_44 (by decide) ?_
      refine v_lload_n C 1 dX4_digest_47 rfl ?_
      refine v_lmul C dX4_digest_48 ?_
      refine v_aload_n C 2 dX4_digest_49 rfl ?_
      refine v_getf C (by omega) (by omega) ct_cow rfl 2 (by decide) wf21 hinX4 rfl dX4_digest_50 ?_
      refine v_st (st' := [.ref (a (26 + 0)), .long (lI (31 * (hf (hf 17 (cnC g F G) 10) (fun k => F (6 + k)) t)))]) rfl ?_
      refine v_getf C (by omega) (by omega) (ct_farm (by omega) (by omega)) rfl 0 (by decide) wf154 hinX1 rfl dX4_digest_53 ?_
      refine v_st (st' := [.ref (a (31 + 0)), .long (lI (31 * (hf (hf 17 (cnC g F G) 10) (fun k => F (6 + k)) t)))]) rfl ?_
      refine v_iload_n C 0 dX4_digest_56 rfl ?_
      refine v_iaload C (by omega) (by omega) (ct_turns (by omega) (by omega)) (by omega) (by omega) (by decide) dX4_digest_57 ?_
      refine v_st (st' := [.int (iI (F (6 + t))), .long (lI (31 * (hf (hf 17 (cnC g F G) 10) (fun k => F (6 + k)) t)))]) (by rw [HF.tn (by omega) (by omega)]) ?_
      refine v_i2l C dX4_digest_58 (by have := HI.t (j := t) (by omega) (by omega); omega) ?_
      refine v_ladd C dX4_digest_59 ?_
      refine v_st (st' := [.long (lI (hf (hf 17 (cnC g F G) 10) (fun k => F (6 + k)) (t + 1)))]) (by rw [hf_s _ _ (by omega)]) ?_
      refine v_lstore_n (lv' := [(1, .long (lI (hf (hf 17 (cnC g F G) 10) (fun k => F (6 + k)) (t + 1)))), (3, .int (iI (t))), (0, .ref (a (0)))]) C dX4_digest_60 (by decide) rfl ?_
      refine v_iinc (z' := t + 1) (lv' := [(3, .int (iI (t + 1))), (1, .long (lI (hf (hf 17 (cnC g F G) 10) (fun k => F (6 + k)) (t + 1)))), (0, .ref (a (0)))]) C 1 dX4_digest_61 rfl (by omega) (by decide) rfl ?_
      refine v_goto (tgt := 33) C dX4_digest_64 (by decide) ?_
      exact ih33 (t + 1) (by omega) (by omega)
  · skip
    refine v_ldc2 (z := 31) C wk290 dX4_digest_12 (by decide) ?_
    refine v_lload_n C 1 dX4_digest_15 rfl ?_
    refine v_lmul C dX4_digest_16 ?_
    refine v_aload_n C 2 dX4_digest_17 rfl ?_
    refine v_iload_n C 0 dX4_digest_18 rfl ?_
    refine v_cV_i C (As := [.int (iI (t))]) (rest := [.long (lI (31 * (hf 17 (cnC g F G) t)))]) (c_X4_count l D yc t1 t2 a A g t F G (by omega) HF HI HC HG) (cwV 1 C.hts gX4_digest_X4_count rfl rfl rfl (by decide +kernel) ⟨by decide, by decide⟩) (fun H hP => va_recv C.hK hP (ci := 4) (q0 := (0 : Int).toNat) rfl (wo_is (by omega) (by omega) ct_cow)) rfl rfl (Nat.le_of_ble_eq_true rfl) dX4_digest_19 ?_
    intro r9 g9 h9
    rw [h9.1, h9.2]
    clear h9 g9 r9
    try dsimp only
    refine v_st (st' := [.int (iI (cnC g F G t)), .long (lI (31 * (hf 17 (cnC g F G) t)))]) rfl ?_
    refine v_i2l C dX4_digest_22 (by have := cnC_bd (g := g) (G := G) HI t; omega) ?_
    refine v_ladd C dX4_digest_23 ?_
    refine v_st (st' := [.long (lI (hf 17 (cnC g F G) (t + 1)))]) (by rw [hf_s _ _ (by omega)]) ?_
    refine v_lstore_n (lv' := [(1, .long (lI (hf 17 (cnC g F G) (t + 1)))), (3, .int (iI (t))), (0, .ref (a (0)))]) C dX4_digest_24 (by decide) rfl ?_
    refine v_iinc (z' := t + 1) (lv' := [(3, .int (iI (t + 1))), (1, .long (lI (hf 17 (cnC g F G) (t + 1)))), (0, .ref (a (0)))]) C 1 dX4_digest_25 rfl (by omega) (by decide) rfl ?_
    refine v_goto (tgt := 6) C dX4_digest_28 (by decide) ?_
    exact ih6 (t + 1) (by omega) (by omega)
