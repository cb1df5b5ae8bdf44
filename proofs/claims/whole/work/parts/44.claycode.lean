set_option maxRecDepth 100000 in
set_option maxHeartbeats 4000000 in
theorem c_X4_layCode (l : Launch) (D : va_G) (yc : Nat → ClassId) (t1 t2 : Nat) (a : Int → Nat) (A : Nat → Prop) (g : Mm) (r cd n : Int) (hr : 0 ≤ r ∧ r < 6) (hc : 0 ≤ cd ∧ cd < 1000000) (hn : 1 ≤ n ∧ n ≤ 8) : Cv l yX4_layCode wsX4_layCode { frames := 2, cells := 0, slots := 0, locals := 47 } D yc t1 t2 A (cw a yc) [.ref (a (6 + r)), .int (iI (cd)), .int (iI (n))] g (fun g' => g' = (cpf (fil (mu g (6 + r) 1 n) (16 + r) n 0) (16 + r) 0 n (fun x9 => bt cd (n - 1 - x9)))) := by
  refine start_v (cc := cX4_layCode) (nL := 4) (ret := none) (own := RX4) (by decide +kernel) rfl rfl (Nat.le_of_ble_eq_true rfl) ?_
  intro p e s m9 below meth c9 C
  have wf78 : Cond.fieldLink RX4 78 (TX3 1).1 (TX3 1).2.1 (TX3 1).2.2.1 ∈ wsX4_layCode := by decide +kernel
  have hinX3 : ∀ w ∈ u_ws RX3 TX3 2, w ∈ wsX4_layCode := by decide +kernel
  have wf63 : Cond.fieldLink RX4 63 (TX3 0).1 (TX3 0).2.1 (TX3 0).2.2.1 ∈ wsX4_layCode := by decide +kernel
  have hl := rl40 (r := r) (by omega)
  refine v_lv (lv' := [(0, .ref (a (6 + r))), (1, .int (iI (cd))), (2, .int (iI (n)))]) rfl ?_
  refine v_aload_n C 0 dX4_layCode_0 rfl ?_
  refine v_iload_n C 2 dX4_layCode_1 rfl ?_
  refine v_iconst C dX4_layCode_2 ?_
  refine v_cV_v C (As := [.int (iI (n)), .int (iI (0))]) (rest := []) (c_X3_become l D yc t1 t2 a A g r n 0 (by omega) (by omega)) (cwV 2 C.hts gX4_layCode_X3_become rfl rfl rfl (by decide +kernel) ⟨by decide, by decide⟩) (fun H hP => va_recv C.hK hP (ci := 3) (q0 := (6 + r : Int).toNat) rfl (wo_is (by omega) (by omega) (ct_row (by omega) (by omega)))) rfl rfl (Nat.le_of_ble_eq_true rfl) dX4_layCode_3 ?_
  intro g9 h9
  rw [h9]
  clear h9 g9
  try dsimp only
  refine v_iconst C dX4_layCode_6 ?_
  refine v_istore_n (lv' := [(3, .int (iI (0))), (0, .ref (a (6 + r))), (1, .int (iI (cd))), (2, .int (iI (n)))]) C dX4_layCode_7 (by decide) rfl ?_
  refine v_g (g' := (cpf (fil (mu g (6 + r) 1 n) (16 + r) n 0) (16 + r) 0 0 (fun x9 => bt cd (n - 1 - x9)))) (by rw [cpf_0]) ?_
  refine v_lv (congrArg (fun x9 => ([(3, .int (iI x9)), (0, .ref (a (6 + r))), (1, .int (iI (cd))), (2, .int (iI (n)))] : List (Nat × Value))) (show (0) = (((0 : Int))) by first | rfl | omega | (simp; done))) ?_
  refine v_loop1 (fun (t : Int) => (n - t).toNat) (fun (t : Int) => 0 ≤ t ∧ t ≤ n) (fun (t : Int) => [(3, .int (iI (t))), (0, .ref (a (6 + r))), (1, .int (iI (cd))), (2, .int (iI (n)))]) (fun (t : Int) => (cpf (fil (mu g (6 + r) 1 n) (16 + r) n 0) (16 + r) 0 t (fun x9 => bt cd (n - 1 - x9)))) ?_ 0 (by omega)
  intro t hI8 ih8
  try dsimp only at ih8 ⊢
  refine v_iload_n C 0 dX4_layCode_8 rfl ?_
  refine v_aload_n C 1 dX4_layCode_9 rfl ?_
  refine v_getf C (by omega) (by omega) (ct_row (by omega) (by omega)) rfl 1 (by decide) wf78 hinX3 rfl dX4_layCode_10 ?_
  refine v_st (st' := [.int (iI (n)), .int (iI (t))]) (by rw [cpf_o (by omega)]; unfold fil; rw [if_neg (by omega), mu_at]) ?_
  refine v_icmp_ge (tgt := 34) C dX4_layCode_13 (by decide) (by omega) (by omega) (fun c13 => ?_) (fun c13 => ?_)
  · skip
    exact v_ret_v C rfl dX4_layCode_34 (by rw [show t = n by omega])
  · skip
    refine v_aload_n C 1 dX4_layCode_16 rfl ?_
    refine v_getf C (by omega) (by omega) (ct_row (by omega) (by omega)) rfl 0 (by decide) wf63 hinX3 rfl dX4_layCode_17 ?_
    refine v_iload_n C 0 dX4_layCode_20 rfl ?_
    refine v_iload_n C 2 dX4_layCode_21 rfl ?_
    refine v_iload_n C 3 dX4_layCode_22 rfl ?_
    refine v_iload_n C 0 dX4_layCode_23 rfl ?_
    refine v_cS_i C (As := [.int (iI (cd)), .int (iI (n)), .int (iI (t))]) (rest := [.int (iI (t)), .ref (a (16 + r))]) (c_X4_farmByCode l D yc t1 t2 A (cw a yc) (cpf (fil (mu g (6 + r) 1 n) (16 + r) n 0) (16 + r) 0 t (fun x9 => bt cd (n - 1 - x9))) cd n t (by omega) (by omega) (by omega)) (va_cwS 3 C.hts gX4_layCode_X4_farmByCode rfl rfl rfl (by decide +kernel) ⟨by decide, by decide⟩) rfl rfl (Nat.le_of_ble_eq_true rfl) dX4_layCode_24 ?_
    intro r9 g9 h9
    rw [h9.1, h9.2]
    clear h9 g9 r9
    try dsimp only
    refine v_iastore C (cta_L a yc) (by omega) (by omega) (ct_places (by omega) (by omega)) (ct_places (by omega) (by omega)).symm (by omega) (by omega) (by unfold rlen; split <;> decide) dX4_layCode_27 ?_
    refine v_iinc (z' := t + 1) (lv' := [(3, .int (iI (t + 1))), (0, .ref (a (6 + r))), (1, .int (iI (cd))), (2, .int (iI (n)))]) C 0 dX4_layCode_28 rfl (by omega) (by decide) rfl ?_
    refine v_goto (tgt := 8) C dX4_layCode_31 (by decide) ?_
    exact v_g (by rw [← cpf_s (by omega), Int.zero_add]) (ih8 (t + 1) (by omega) (by omega))
