set_option maxRecDepth 100000 in
set_option maxHeartbeats 4000000 in
theorem c_X4_farmByCode (l : Launch) (D : va_G) (yc : Nat → ClassId) (t1 t2 : Nat) (A : Nat → Prop) {M : Type} (ww : M → va_W) (g : M) (cd n k : Int) (hc : 0 ≤ cd ∧ cd < 1000000) (hn : 1 ≤ n ∧ n ≤ 8) (hk : 0 ≤ k ∧ k < n) : Ci l yX4_farmByCode wsX4_farmByCode { frames := 0, cells := 0, slots := 0, locals := 0 } D yc t1 t2 A ww [.int (iI (cd)), .int (iI (n)), .int (iI (k))] g (fun r9 g' => r9 = (iI (bt cd (n - 1 - k))) ∧ g' = g) := by
  refine start_i (cc := cX4_farmByCode) (nL := 3) (ret := (some .int)) (own := RX4) (by decide +kernel) rfl rfl (Nat.le_of_ble_eq_true rfl) ?_
  intro p e s m9 below meth c9 C
  refine v_lv (lv' := [(0, .int (iI (cd))), (1, .int (iI (n))), (2, .int (iI (k)))]) rfl ?_
  refine v_iload_n C 0 dX4_farmByCode_0 rfl ?_
  refine v_iload_n C 1 dX4_farmByCode_1 rfl ?_
  refine v_iconst C dX4_farmByCode_2 ?_
  refine v_isub C dX4_farmByCode_3 ?_
  refine v_iload_n C 2 dX4_farmByCode_4 rfl ?_
  refine v_isub C dX4_farmByCode_5 ?_
  refine v_ishr (z := (iI (cd / pw (n - 1 - k)))) C dX4_farmByCode_6 (shr_bt (by omega) (by omega) (by omega) (by omega)) ?_
  refine v_iconst C dX4_farmByCode_7 ?_
  refine v_iand (z := (iI (bt cd (n - 1 - k)))) C dX4_farmByCode_8 (and_1 (Int.ediv_nonneg (by omega) (by have := pw_pos (n - 1 - k); omega)) (Int.lt_of_le_of_lt (Int.ediv_le_self _ (by omega)) (by omega))) ?_
  exact v_ret_i C rfl dX4_farmByCode_9 ⟨rfl, rfl⟩

set_option maxRecDepth 100000 in
set_option maxHeartbeats 4000000 in
theorem c_X4_leadByCode (l : Launch) (D : va_G) (yc : Nat → ClassId) (t1 t2 : Nat) (a : Int → Nat) (A : Nat → Prop) (g : Mm) (cd n : Int) (F : Int → Int) (hcd : R32 cd) (hn : R32 n) (HF : FR g 0 F) (HI : FI F) (ht : 0 < F 2) (hc9 : 0 ≤ cd ∧ cd < 1000000) (hn9 : 1 ≤ n ∧ n ≤ 8) : Ci l yX4_leadByCode wsX4_leadByCode { frames := 1, cells := 0, slots := 0, locals := 22 } D yc t1 t2 A (cw a yc) [.ref (a (0)), .int (iI (cd)), .int (iI (n))] g (fun r9 g' => r9 = (iI (sI (fun e9 => if bt cd (n - 1 - e9) = 0 then mOn F e9 else -mOn F e9) n)) ∧ g' = g) := by
  refine start_i (cc := cX4_leadByCode) (nL := 5) (ret := (some .int)) (own := RX4) (by decide +kernel) rfl rfl (Nat.le_of_ble_eq_true rfl) ?_
  intro p e s m9 below meth c9 C
  have wf21 : Cond.fieldLink RX4 21 (TX4 2).1 (TX4 2).2.1 (TX4 2).2.2.1 ∈ wsX4_leadByCode := by decide +kernel
  have hinX4 : ∀ w ∈ u_ws RX4 TX4 10, w ∈ wsX4_leadByCode := by decide +kernel
  have hn := HI.n
  refine v_lv (lv' := [(0, .ref (a (0))), (1, .int (iI (cd))), (2, .int (iI (n)))]) rfl ?_
  refine v_iconst C dX4_leadByCode_0 ?_
  refine v_istore_n (lv' := [(3, .int (iI (0))), (0, .ref (a (0))), (1, .int (iI (cd))), (2, .int (iI (n)))]) C dX4_leadByCode_1 (by decide) rfl ?_
  refine v_iconst C dX4_leadByCode_2 ?_
  refine v_istore (lv' := [(4, .int (iI (0))), (3, .int (iI (0))), (0, .ref (a (0))), (1, .int (iI (cd))), (2, .int (iI (n)))]) C dX4_leadByCode_3 (by decide) rfl ?_
  refine v_lv (congrArg (fun x9 => ([(4, .int (iI x9)), (3, .int (iI (0))), (0, .ref (a (0))), (1, .int (iI (cd))), (2, .int (iI (n)))] : List (Nat × Value))) (show (0) = (((0 : Int))) by first | rfl | omega | (simp; done))) ?_
  refine v_lv (congrArg (fun x9 => ([(4, .int (iI (((0 : Int))))), (3, .int (iI x9)), (0, .ref (a (0))), (1, .int (iI (cd))), (2, .int (iI (n)))] : List (Nat × Value))) (show (0) = (sI (fun e9 => if bt cd (n - 1 - e9) = 0 then mOn F e9 else -mOn F e9) ((0 : Int))) by first | rfl | omega | (simp; done))) ?_
  refine v_loop1 (fun (t : Int) => (n - t).toNat) (fun (t : Int) => 0 ≤ t ∧ t ≤ n) (fun (t : Int) => [(4, .int (iI (t))), (3, .int (iI (sI (fun e9 => if bt cd (n - 1 - e9) = 0 then mOn F e9 else -mOn F e9) t))), (0, .ref (a (0))), (1, .int (iI (cd))), (2, .int (iI (n)))]) (fun (t : Int) => g) ?_ 0 (by omega)
  intro t hI5 ih5
  try dsimp only at ih5 ⊢
  refine v_iload C 0 dX4_leadByCode_5 rfl ?_
  refine v_iload_n C 4 dX4_leadByCode_7 rfl ?_
  refine v_icmp_ge (tgt := 52) C dX4_leadByCode_8 (by decide) (by omega) (by omega) (fun c8 => ?_) (fun c8 => ?_)
  · skip
    refine v_iload_n C 1 dX4_leadByCode_52 rfl ?_
    exact v_ret_i C rfl dX4_leadByCode_53 ⟨(by rw [show t = n by omega]), rfl⟩
  · skip
    refine v_iload_n C 1 dX4_leadByCode_11 rfl ?_
    refine v_iload_n C 3 dX4_leadByCode_12 rfl ?_
    refine v_iload_n C 4 dX4_leadByCode_13 rfl ?_
    refine v_iload C 0 dX4_leadByCode_14 rfl ?_
    refine v_cS_i C (As := [.int (iI (cd)), .int (iI (n)), .int (iI (t))]) (rest := [.int (iI (sI (fun e9 => if bt cd (n - 1 - e9) = 0 then mOn F e9 else -mOn F e9) t))]) (c_X4_farmByCode l D yc t1 t2 A (cw a yc) g cd n t (by omega) (by omega) (by omega)) (va_cwS 3 C.hts gX4_leadByCode_X4_farmByCode rfl rfl rfl (by decide +kernel) ⟨by decide, by decide⟩) rfl rfl (Nat.le_of_ble_eq_true rfl) dX4_leadByCode_16 ?_
    intro r9 g9 h9
    rw [h9.1, h9.2]
    clear h9 g9 r9
    try dsimp only
    have h01 := bt01 cd (n - 1 - t)
    refine v_cut1 44 (fun (v44 : Int) => v44 = if bt cd (n - 1 - t) = 0 then mOn F t else -mOn F t) (fun (v44 : Int) => [(4, .int (iI (t))), (3, .int (iI (sI (fun e9 => if bt cd (n - 1 - e9) = 0 then mOn F e9 else -mOn F e9) t))), (0, .ref (a (0))), (1, .int (iI (cd))), (2, .int (iI (n)))]) (fun (v44 : Int) => [.int (iI (v44)), .int (iI (sI (fun e9 => if bt cd (n - 1 - e9) = 0 then mOn F e9 else -mOn F e9) t))]) (fun (v44 : Int) => g) ?_ ?_
    · intro v44 hj44
      try dsimp only
      refine v_iadd C dX4_leadByCode_44 ?_
      refine v_istore_n (lv' := [(3, .int (iI ((sI (fun e9 => if bt cd (n - 1 - e9) = 0 then mOn F e9 else -mOn F e9) t) + v44))), (4, .int (iI (t))), (0, .ref (a (0))), (1, .int (iI (cd))), (2, .int (iI (n)))]) C dX4_leadByCode_45 (by decide) rfl ?_
      refine v_iinc (z' := t + 1) (lv' := [(4, .int (iI (t + 1))), (3, .int (iI ((sI (fun e9 => if bt cd (n - 1 - e9) = 0 then mOn F e9 else -mOn F e9) t) + v44))), (0, .ref (a (0))), (1, .int (iI (cd))), (2, .int (iI (n)))]) C 1 dX4_leadByCode_46 rfl (by omega) (by decide) rfl ?_
      refine v_goto (tgt := 5) C dX4_leadByCode_49 (by decide) ?_
      refine v_lv (congrArg (fun x9 => ([(4, .int (iI (t + 1))), (3, .int (iI x9)), (0, .ref (a (0))), (1, .int (iI (cd))), (2, .int (iI (n)))] : List (Nat × Value))) (show ((sI (fun e9 => if bt cd (n - 1 - e9) = 0 then mOn F e9 else -mOn F e9) t) + v44) = (sI (fun e9 => if bt cd (n - 1 - e9) = 0 then mOn F e9 else -mOn F e9) (t + 1)) by first | rfl | (rw [sI_s _ (by omega), hj44]))) ?_
      exact ih5 (t + 1) (by omega) (by omega)
    · intro jn44
      try dsimp only at jn44
      have h01 := bt01 cd (n - 1 - t)
      refine v_if_ne (tgt := 34) C dX4_leadByCode_19 (by decide) (by omega) (fun c19 => ?_) (fun c19 => ?_)
      · skip
        refine v_aload_n C 2 dX4_leadByCode_34 rfl ?_
        refine v_getf C (by omega) (by omega) ct_cow rfl 2 (by decide) wf21 hinX4 rfl dX4_leadByCode_35 ?_
        refine v_st (st' := [.ref (a (26 + 0)), .int (iI (sI (fun e9 => if bt cd (n - 1 - e9) = 0 then mOn F e9 else -mOn F e9) t))]) rfl ?_
        refine v_iload C 0 dX4_leadByCode_38 rfl ?_
        refine v_cV_i C (As := [.int (iI (t))]) (rest := [.int (iI (sI (fun e9 => if bt cd (n - 1 - e9) = 0 then mOn F e9 else -mOn F e9) t))]) (c_X1_milkOn l D yc t1 t2 a A g 0 t F (by omega) HF HI (by omega) (by omega)) (cwV 1 C.hts gX4_leadByCode_X1_milkOn rfl rfl rfl (by decide +kernel) ⟨by decide, by decide⟩) (fun H hP => va_recv C.hK hP (ci := 1) (q0 := (26 + 0 : Int).toNat) rfl (wo_is (by omega) (by omega) (ct_farm (by omega) (by omega)))) rfl rfl (Nat.le_of_ble_eq_true rfl) dX4_leadByCode_40 ?_
        intro r9 g9 h9
        rw [h9.1, h9.2]
        clear h9 g9 r9
        try dsimp only
        refine v_ineg C dX4_leadByCode_43 ?_
        exact jn44 (-(mOn F t)) (by first | rw [if_pos (by omega)] | rw [if_neg (by omega)])
      · skip
        refine v_aload_n C 2 dX4_leadByCode_22 rfl ?_
        refine v_getf C (by omega) (by omega) ct_cow rfl 2 (by decide) wf21 hinX4 rfl dX4_leadByCode_23 ?_
        refine v_st (st' := [.ref (a (26 + 0)), .int (iI (sI (fun e9 => if bt cd (n - 1 - e9) = 0 then mOn F e9 else -mOn F e9) t))]) rfl ?_
        refine v_iload C 0 dX4_leadByCode_26 rfl ?_
        refine v_cV_i C (As := [.int (iI (t))]) (rest := [.int (iI (sI (fun e9 => if bt cd (n - 1 - e9) = 0 then mOn F e9 else -mOn F e9) t))]) (c_X1_milkOn l D yc t1 t2 a A g 0 t F (by omega) HF HI (by omega) (by omega)) (cwV 1 C.hts gX4_leadByCode_X1_milkOn rfl rfl rfl (by decide +kernel) ⟨by decide, by decide⟩) (fun H hP => va_recv C.hK hP (ci := 1) (q0 := (26 + 0 : Int).toNat) rfl (wo_is (by omega) (by omega) (ct_farm (by omega) (by omega)))) rfl rfl (Nat.le_of_ble_eq_true rfl) dX4_leadByCode_28 ?_
        intro r9 g9 h9
        rw [h9.1, h9.2]
        clear h9 g9 r9
        try dsimp only
        refine v_goto (tgt := 44) C dX4_leadByCode_31 (by decide) ?_
        exact jn44 (mOn F t) (by first | rw [if_pos (by omega)] | rw [if_neg (by omega)])
