set_option maxRecDepth 100000 in
set_option maxHeartbeats 4000000 in
theorem c_X5_apartBy (l : Launch) (D : va_G) (yc : Nat → ClassId) (t1 t2 : Nat) (a : Int → Nat) (A : Nat → Prop) (g : Mm) (cd n : Int) (HI : FI (g 6)) (ht : 0 < g 6 2) (hc : 0 ≤ cd ∧ cd < 256) (hn8 : 1 ≤ n ∧ n ≤ 8) : Ci l yX5_apartBy wsX5_apartBy { frames := 1, cells := 0, slots := 0, locals := 21 } D yc t1 t2 A (mw a yc) [.ref (a (0)), .int (iI (cd)), .int (iI (n))] g (fun r9 g' => r9 = (iI (apB (g 6) n cd)) ∧ g' = g) := by
  refine start_i (cc := cX5_apartBy) (nL := 5) (ret := (some .int)) (own := RX5) (by decide +kernel) rfl rfl (Nat.le_of_ble_eq_true rfl) ?_
  intro p e s m9 below meth c9 C
  have hn := HI.n
  have hb9 := sI_bd (h := apS (g 6) n cd) (B := 9) (n := n) (fun e _ _ => by have := mOn9 HI ht e; unfold apS; split <;> omega) (by omega)
  refine v_lv (lv' := [(0, .ref (a (0))), (1, .int (iI (cd))), (2, .int (iI (n)))]) rfl ?_
  refine v_iconst C dX5_apartBy_0 ?_
  refine v_istore_n (lv' := [(3, .int (iI (0))), (0, .ref (a (0))), (1, .int (iI (cd))), (2, .int (iI (n)))]) C dX5_apartBy_1 (by decide) rfl ?_
  refine v_iconst C dX5_apartBy_2 ?_
  refine v_istore (lv' := [(4, .int (iI (0))), (3, .int (iI (0))), (0, .ref (a (0))), (1, .int (iI (cd))), (2, .int (iI (n)))]) C dX5_apartBy_3 (by decide) rfl ?_
  refine v_lv (congrArg (fun x9 => ([(4, .int (iI x9)), (3, .int (iI (0))), (0, .ref (a (0))), (1, .int (iI (cd))), (2, .int (iI (n)))] : List (Nat × Value))) (show (0) = (((0 : Int))) by first | rfl | omega | (simp; done))) ?_
  refine v_lv (congrArg (fun x9 => ([(4, .int (iI (((0 : Int))))), (3, .int (iI x9)), (0, .ref (a (0))), (1, .int (iI (cd))), (2, .int (iI (n)))] : List (Nat × Value))) (show (0) = (sI (apS (g 6) n cd) ((0 : Int))) by first | rfl | omega | (simp; done))) ?_
  refine v_loop1 (fun (t : Int) => (n - t).toNat) (fun (t : Int) => 0 ≤ t ∧ t ≤ n) (fun (t : Int) => [(4, .int (iI (t))), (3, .int (iI (sI (apS (g 6) n cd) t))), (0, .ref (a (0))), (1, .int (iI (cd))), (2, .int (iI (n)))]) (fun (t : Int) => g) ?_ 0 (by omega)
  intro t hI5 ih5
  try dsimp only at ih5 ⊢
  refine v_iload C 0 dX5_apartBy_5 rfl ?_
  refine v_iload_n C 4 dX5_apartBy_7 rfl ?_
  refine v_icmp_ge (tgt := 49) C dX5_apartBy_8 (by decide) (by omega) (by omega) (fun c8 => ?_) (fun c8 => ?_)
  · skip
    have htn : t = n := by omega
    refine v_iload_n C 1 dX5_apartBy_49 rfl ?_
    refine v_if_ge (tgt := 58) C dX5_apartBy_50 (by decide) (by rw [htn]; omega) (fun c50 => ?_) (fun c50 => ?_)
    · skip
      refine v_iload_n C 1 dX5_apartBy_58 rfl ?_
      exact v_ret_i C rfl dX5_apartBy_59 ⟨(by rw [htn] at c50; rw [htn]; unfold apB; first | rw [if_pos (by omega)] | rw [if_neg (by omega)]), rfl⟩
    · skip
      refine v_iload_n C 1 dX5_apartBy_53 rfl ?_
      refine v_ineg C dX5_apartBy_54 ?_
      refine v_goto (tgt := 59) C dX5_apartBy_55 (by decide) ?_
      exact v_ret_i C rfl dX5_apartBy_59 ⟨(by rw [htn] at c50; rw [htn]; unfold apB; first | rw [if_pos (by omega)] | rw [if_neg (by omega)]), rfl⟩
  · skip
    refine v_iload_n C 1 dX5_apartBy_11 rfl ?_
    refine v_iload_n C 3 dX5_apartBy_12 rfl ?_
    refine v_iload_n C 4 dX5_apartBy_13 rfl ?_
    refine v_iconst C dX5_apartBy_14 ?_
    refine v_isub C dX5_apartBy_15 ?_
    refine v_iload C 0 dX5_apartBy_16 rfl ?_
    refine v_isub C dX5_apartBy_18 ?_
    refine v_cS_i C (As := [.int (iI (cd)), .int (iI ((n - 1) - t))]) (rest := [.int (iI (sI (apS (g 6) n cd) t))]) (c_X5_has l D yc t1 t2 A (mw a yc) g cd ((n - 1) - t) (by omega) (by omega)) (va_cwS 2 C.hts gX5_apartBy_X5_has rfl rfl rfl (by decide +kernel) ⟨by decide, by decide⟩) rfl rfl (Nat.le_of_ble_eq_true rfl) dX5_apartBy_19 ?_
    intro r9 g9 h9
    rw [h9.1, h9.2]
    clear h9 g9 r9
    try dsimp only
    refine v_ifb_eq (tgt := 34) C dX5_apartBy_22 (by decide) (fun c22 => ?_) (fun c22 => ?_)
    · skip
      refine v_aload_n C 2 dX5_apartBy_34 rfl ?_
      refine v_iload C 0 dX5_apartBy_35 rfl ?_
      refine v_cV_i C (As := [.int (iI (t))]) (rest := [.int (iI (sI (apS (g 6) n cd) t))]) (c_X5_milkOn l D yc t1 t2 a A g t HI (by omega) (by omega)) (cwV 1 C.hts gX5_apartBy_X5_milkOn rfl rfl rfl (by decide +kernel) ⟨by decide, by decide⟩) (fun H hP => va_recv C.hK hP (ci := 5) (q0 := (0 : Int).toNat) rfl (wo_is (by omega) (by omega) ct_mod)) rfl rfl (Nat.le_of_ble_eq_true rfl) dX5_apartBy_37 ?_
      intro r9 g9 h9
      rw [h9.1, h9.2]
      clear h9 g9 r9
      try dsimp only
      refine v_ineg C dX5_apartBy_40 ?_
      refine v_iadd C dX5_apartBy_41 ?_
      refine v_istore_n (lv' := [(3, .int (iI ((sI (apS (g 6) n cd) t) + (-(mOn (g 6) t))))), (4, .int (iI (t))), (0, .ref (a (0))), (1, .int (iI (cd))), (2, .int (iI (n)))]) C dX5_apartBy_42 (by decide) rfl ?_
      refine v_iinc (z' := t + 1) (lv' := [(4, .int (iI (t + 1))), (3, .int (iI ((sI (apS (g 6) n cd) t) + (-(mOn (g 6) t))))), (0, .ref (a (0))), (1, .int (iI (cd))), (2, .int (iI (n)))]) C 1 dX5_apartBy_43 rfl (by omega) (by decide) rfl ?_
      refine v_goto (tgt := 5) C dX5_apartBy_46 (by decide) ?_
      refine v_lv (congrArg (fun x9 => ([(4, .int (iI (t + 1))), (3, .int (iI x9)), (0, .ref (a (0))), (1, .int (iI (cd))), (2, .int (iI (n)))] : List (Nat × Value))) (show ((sI (apS (g 6) n cd) t) + (-(mOn (g 6) t))) = (sI (apS (g 6) n cd) (t + 1)) by first | rfl | (rw [sI_s _ (by omega)]; unfold apS; first | rw [if_pos c22] | rw [if_neg c22]))) ?_
      exact ih5 (t + 1) (by omega) (by omega)
    · skip
      refine v_aload_n C 2 dX5_apartBy_25 rfl ?_
      refine v_iload C 0 dX5_apartBy_26 rfl ?_
      refine v_cV_i C (As := [.int (iI (t))]) (rest := [.int (iI (sI (apS (g 6) n cd) t))]) (c_X5_milkOn l D yc t1 t2 a A g t HI (by omega) (by omega)) (cwV 1 C.hts gX5_apartBy_X5_milkOn rfl rfl rfl (by decide +kernel) ⟨by decide, by decide⟩) (fun H hP => va_recv C.hK hP (ci := 5) (q0 := (0 : Int).toNat) rfl (wo_is (by omega) (by omega) ct_mod)) rfl rfl (Nat.le_of_ble_eq_true rfl) dX5_apartBy_28 ?_
      intro r9 g9 h9
      rw [h9.1, h9.2]
      clear h9 g9 r9
      try dsimp only
      refine v_goto (tgt := 41) C dX5_apartBy_31 (by decide) ?_
      refine v_iadd C dX5_apartBy_41 ?_
      refine v_istore_n (lv' := [(3, .int (iI ((sI (apS (g 6) n cd) t) + (mOn (g 6) t)))), (4, .int (iI (t))), (0, .ref (a (0))), (1, .int (iI (cd))), (2, .int (iI (n)))]) C dX5_apartBy_42 (by decide) rfl ?_
      refine v_iinc (z' := t + 1) (lv' := [(4, .int (iI (t + 1))), (3, .int (iI ((sI (apS (g 6) n cd) t) + (mOn (g 6) t)))), (0, .ref (a (0))), (1, .int (iI (cd))), (2, .int (iI (n)))]) C 1 dX5_apartBy_43 rfl (by omega) (by decide) rfl ?_
      refine v_goto (tgt := 5) C dX5_apartBy_46 (by decide) ?_
      refine v_lv (congrArg (fun x9 => ([(4, .int (iI (t + 1))), (3, .int (iI x9)), (0, .ref (a (0))), (1, .int (iI (cd))), (2, .int (iI (n)))] : List (Nat × Value))) (show ((sI (apS (g 6) n cd) t) + (mOn (g 6) t)) = (sI (apS (g 6) n cd) (t + 1)) by first | rfl | (rw [sI_s _ (by omega)]; unfold apS; first | rw [if_pos c22] | rw [if_neg c22]))) ?_
      exact ih5 (t + 1) (by omega) (by omega)

set_option maxRecDepth 100000 in
set_option maxHeartbeats 4000000 in
theorem c_X5_walksBy (l : Launch) (D : va_G) (yc : Nat → ClassId) (t1 t2 : Nat) (A : Nat → Prop) {M : Type} (ww : M → va_W) (g : M) (cd n : Int) (hc : 0 ≤ cd ∧ cd < 256) (hn8 : 1 ≤ n ∧ n ≤ 8) : Ci l yX5_walksBy wsX5_walksBy { frames := 1, cells := 0, slots := 0, locals := 21 } D yc t1 t2 A ww [.int (iI (cd)), .int (iI (n))] g (fun r9 g' => r9 = (iI (wkB n cd)) ∧ g' = g) := by
  refine start_i (cc := cX5_walksBy) (nL := 4) (ret := (some .int)) (own := RX5) (by decide +kernel) rfl rfl (Nat.le_of_ble_eq_true rfl) ?_
  intro p e s m9 below meth c9 C
  refine v_lv (lv' := [(0, .int (iI (cd))), (1, .int (iI (n)))]) rfl ?_
  refine v_iconst C dX5_walksBy_0 ?_
  refine v_istore_n (lv' := [(2, .int (iI (0))), (0, .int (iI (cd))), (1, .int (iI (n)))]) C dX5_walksBy_1 (by decide) rfl ?_
  refine v_iconst C dX5_walksBy_2 ?_
  refine v_istore_n (lv' := [(3, .int (iI (1))), (2, .int (iI (0))), (0, .int (iI (cd))), (1, .int (iI (n)))]) C dX5_walksBy_3 (by decide) rfl ?_
  refine v_lv (congrArg (fun x9 => ([(3, .int (iI x9)), (2, .int (iI (0))), (0, .int (iI (cd))), (1, .int (iI (n)))] : List (Nat × Value))) (show (1) = (((0 : Int)) + 1) by first | rfl | omega | (simp; done))) ?_
  refine v_lv (congrArg (fun x9 => ([(3, .int (iI (((0 : Int)) + 1))), (2, .int (iI x9)), (0, .int (iI (cd))), (1, .int (iI (n)))] : List (Nat × Value))) (show (0) = (sI (fun e => if (bt cd (n - 1 - (e + 1)) = 1 ↔ bt cd (n - (e + 1)) = 1) then 0 else 1) ((0 : Int))) by first | rfl | omega | (simp; done))) ?_
  refine v_loop1 (fun (t : Int) => (n - 1 - t).toNat) (fun (t : Int) => 0 ≤ t ∧ t ≤ n - 1) (fun (t : Int) => [(3, .int (iI (t + 1))), (2, .int (iI (sI (fun e => if (bt cd (n - 1 - (e + 1)) = 1 ↔ bt cd (n - (e + 1)) = 1) then 0 else 1) t))), (0, .int (iI (cd))), (1, .int (iI (n)))]) (fun (t : Int) => g) ?_ 0 (by omega)
  intro t hI4 ih4
  try dsimp only at ih4 ⊢
  refine v_iload_n C 0 dX5_walksBy_4 rfl ?_
  refine v_iload_n C 3 dX5_walksBy_5 rfl ?_
  refine v_icmp_ge (tgt := 42) C dX5_walksBy_6 (by decide) (by omega) (by omega) (fun c6 => ?_) (fun c6 => ?_)
  · skip
    refine v_iload_n C 1 dX5_walksBy_42 rfl ?_
    exact v_ret_i C rfl dX5_walksBy_43 ⟨(by rw [show t = n - 1 by omega]; rfl), rfl⟩
  · skip
    refine v_iload_n C 1 dX5_walksBy_9 rfl ?_
    refine v_iload_n C 2 dX5_walksBy_10 rfl ?_
    refine v_iload_n C 3 dX5_walksBy_11 rfl ?_
    refine v_iconst C dX5_walksBy_12 ?_
    refine v_isub C dX5_walksBy_13 ?_
    refine v_iload_n C 0 dX5_walksBy_14 rfl ?_
    refine v_isub C dX5_walksBy_15 ?_
    refine v_cS_i C (As := [.int (iI (cd)), .int (iI ((n - 1) - (t + 1)))]) (rest := [.int (iI (sI (fun e => if (bt cd (n - 1 - (e + 1)) = 1 ↔ bt cd (n - (e + 1)) = 1) then 0 else 1) t))]) (c_X5_has l D yc t1 t2 A ww g cd ((n - 1) - (t + 1)) (by omega) (by omega)) (va_cwS 2 C.hts gX5_walksBy_X5_has rfl rfl rfl (by decide +kernel) ⟨by decide, by decide⟩) rfl rfl (Nat.le_of_ble_eq_true rfl) dX5_walksBy_16 ?_
    intro r9 g9 h9
    rw [h9.1, h9.2]
    clear h9 g9 r9
    try dsimp only
    refine v_iload_n C 2 dX5_walksBy_19 rfl ?_
    refine v_iload_n C 3 dX5_walksBy_20 rfl ?_
    refine v_iload_n C 0 dX5_walksBy_21 rfl ?_
    refine v_isub C dX5_walksBy_22 ?_
    refine v_cS_i C (As := [.int (iI (cd)), .int (iI (n - (t + 1)))]) (rest := [.int (bI (bt cd ((n - 1) - (t + 1)) = 1)), .int (iI (sI (fun e => if (bt cd (n - 1 - (e + 1)) = 1 ↔ bt cd (n - (e + 1)) = 1) then 0 else 1) t))]) (c_X5_has l D yc t1 t2 A ww g cd (n - (t + 1)) (by omega) (by omega)) (va_cwS 2 C.hts gX5_walksBy_X5_has rfl rfl rfl (by decide +kernel) ⟨by decide, by decide⟩) rfl rfl (Nat.le_of_ble_eq_true rfl) dX5_walksBy_23 ?_
    intro r9 g9 h9
    rw [h9.1, h9.2]
    clear h9 g9 r9
    try dsimp only
    refine v_icbb_ne (tgt := 33) C dX5_walksBy_26 (by decide) (fun c26 => ?_) (fun c26 => ?_)
    · skip
      refine v_iconst C dX5_walksBy_33 ?_
      refine v_iadd C dX5_walksBy_34 ?_
      refine v_istore_n (lv' := [(2, .int (iI ((sI (fun e => if (bt cd (n - 1 - (e + 1)) = 1 ↔ bt cd (n - (e + 1)) = 1) then 0 else 1) t) + 1))), (3, .int (iI (t + 1))), (0, .int (iI (cd))), (1, .int (iI (n)))]) C dX5_walksBy_35 (by decide) rfl ?_
      refine v_iinc (z' := t + 1 + 1) (lv' := [(3, .int (iI (t + 1 + 1))), (2, .int (iI ((sI (fun e => if (bt cd (n - 1 - (e + 1)) = 1 ↔ bt cd (n - (e + 1)) = 1) then 0 else 1) t) + 1))), (0, .int (iI (cd))), (1, .int (iI (n)))]) C 1 dX5_walksBy_36 rfl (by omega) (by decide) rfl ?_
      refine v_goto (tgt := 4) C dX5_walksBy_39 (by decide) ?_
      refine v_lv (congrArg (fun x9 => ([(3, .int (iI x9)), (2, .int (iI ((sI (fun e => if (bt cd (n - 1 - (e + 1)) = 1 ↔ bt cd (n - (e + 1)) = 1) then 0 else 1) t) + 1))), (0, .int (iI (cd))), (1, .int (iI (n)))] : List (Nat × Value))) (show (t + 1 + 1) = ((t + 1) + 1) by first | rfl | (omega))) ?_
      refine v_lv (congrArg (fun x9 => ([(3, .int (iI ((t + 1) + 1))), (2, .int (iI x9)), (0, .int (iI (cd))), (1, .int (iI (n)))] : List (Nat × Value))) (show ((sI (fun e => if (bt cd (n - 1 - (e + 1)) = 1 ↔ bt cd (n - (e + 1)) = 1) then 0 else 1) t) + 1) = (sI (fun e => if (bt cd (n - 1 - (e + 1)) = 1 ↔ bt cd (n - (e + 1)) = 1) then 0 else 1) (t + 1)) by first | rfl | (rw [sI_s _ (by omega)]; first | rw [if_pos c26] | rw [if_neg c26]))) ?_
      exact ih4 (t + 1) (by omega) (by omega)
    · skip
      refine v_iconst C dX5_walksBy_29 ?_
      refine v_goto (tgt := 34) C dX5_walksBy_30 (by decide) ?_
      refine v_iadd C dX5_walksBy_34 ?_
      refine v_istore_n (lv' := [(2, .int (iI ((sI (fun e => if (bt cd (n - 1 - (e + 1)) = 1 ↔ bt cd (n - (e + 1)) = 1) then 0 else 1) t) + 0))), (3, .int (iI (t + 1))), (0, .int (iI (cd))), (1, .int (iI (n)))]) C dX5_walksBy_35 (by decide) rfl ?_
      refine v_iinc (z' := t + 1 + 1) (lv' := [(3, .int (iI (t + 1 + 1))), (2, .int (iI ((sI (fun e => if (bt cd (n - 1 - (e + 1)) = 1 ↔ bt cd (n - (e + 1)) = 1) then 0 else 1) t) + 0))), (0, .int (iI (cd))), (1, .int (iI (n)))]) C 1 dX5_walksBy_36 rfl (by omega) (by decide) rfl ?_
      refine v_goto (tgt := 4) C dX5_walksBy_39 (by decide) ?_
      refine v_lv (congrArg (fun x9 => ([(3, .int (iI x9)), (2, .int (iI ((sI (fun e => if (bt cd (n - 1 - (e + 1)) = 1 ↔ bt cd (n - (e + 1)) = 1) then 0 else 1) t) + 0))), (0, .int (iI (cd))), (1, .int (iI (n)))] : List (Nat × Value))) (show (t + 1 + 1) = ((t + 1) + 1) by first | rfl | (omega))) ?_
      refine v_lv (congrArg (fun x9 => ([(3, .int (iI ((t + 1) + 1))), (2, .int (iI x9)), (0, .int (iI (cd))), (1, .int (iI (n)))] : List (Nat × Value))) (show ((sI (fun e => if (bt cd (n - 1 - (e + 1)) = 1 ↔ bt cd (n - (e + 1)) = 1) then 0 else 1) t) + 0) = (sI (fun e => if (bt cd (n - 1 - (e + 1)) = 1 ↔ bt cd (n - (e + 1)) = 1) then 0 else 1) (t + 1)) by first | rfl | (rw [sI_s _ (by omega)]; first | rw [if_pos c26] | rw [if_neg c26]))) ?_
      exact ih4 (t + 1) (by omega) (by omega)

set_option maxRecDepth 100000 in
set_option maxHeartbeats 4000000 in
theorem c_X5_best (l : Launch) (D : va_G) (yc : Nat → ClassId) (t1 t2 : Nat) (a : Int → Nat) (A : Nat → Prop) (g : Mm) (n r : Int) (hn : R32 n) (hr : R32 r) (HI : FI (g 6)) : Ci l yX5_best wsX5_best { frames := 2, cells := 0, slots := 0, locals := 45 } D yc t1 t2 A (mw a yc) [.ref (a (0)), .int (iI (n)), .int (iI (r))] g (fun r9 g' => r9 = (iI (if (n < 1 ∨ 8 < n) ∨ (r < 0 ∨ 5 < r) then -1 else if g 6 0 = 0 then -4 else apB (g 6) n (ab (btr (g 6) n) (pw n - 1).toNat))) ∧ g' = (if (n < 1 ∨ 8 < n) ∨ (r < 0 ∨ 5 < r) then g else if g 6 0 = 0 then g else mu (cpf (fls (mu g 1 r n) 2 (40 * r) 40 0) 2 (40 * r) n (fun x => if bt (ab (btr (g 6) n) (pw n - 1).toNat) (n - 1 - x) = 1 then 1 else 0)) 0 11 (wkB n (ab (btr (g 6) n) (pw n - 1).toNat)))) := by
  refine start_i (cc := cX5_best) (nL := 6) (ret := (some .int)) (own := RX5) (by decide +kernel) rfl rfl (Nat.le_of_ble_eq_true rfl) ?_
  intro p e s m9 below meth c9 C
  have wf13 : Cond.fieldLink RX5 13 (TX5 1).1 (TX5 1).2.1 (TX5 1).2.2.1 ∈ wsX5_best := by decide +kernel
  have hinX5 : ∀ w ∈ u_ws RX5 TX5 17, w ∈ wsX5_best := by decide +kernel
  have hn9 := HI.n
  refine v_lv (lv' := [(0, .ref (a (0))), (1, .int (iI (n))), (2, .int (iI (r)))]) rfl ?_
  refine v_iload_n C 1 dX5_best_0 rfl ?_
  refine v_iconst C dX5_best_1 ?_
  refine v_bipush C dX5_best_2 (by decide) ?_
  refine v_cS_i C (As := [.int (iI (n)), .int (iI (1)), .int (iI (8))]) (rest := []) (c_X5_in l D yc t1 t2 A (mw a yc) g n 1 8 (by omega) (by omega) (by omega)) (va_cwS 3 C.hts gX5_best_X5_in rfl rfl rfl (by decide +kernel) ⟨by decide, by decide⟩) rfl rfl (Nat.le_of_ble_eq_true rfl) dX5_best_4 ?_
  intro r9 g9 h9
  rw [h9.1, h9.2]
  clear h9 g9 r9
  try dsimp only
  refine v_ifb_eq (tgt := 17) C dX5_best_7 (by decide) (fun c7 => ?_) (fun c7 => ?_)
  · skip
    refine v_iconst C dX5_best_17 ?_
    exact v_ret_i C rfl dX5_best_18 ⟨(by repeat (first | rfl | rw [if_pos (by omega)] | rw [if_neg (by omega)])), (by repeat (first | rfl | rw [if_pos (by omega)] | rw [if_neg (by omega)]))⟩
  · skip
    refine v_iload_n C 2 dX5_best_10 rfl ?_
    refine v_cS_i C (As := [.int (iI (r))]) (rest := []) (c_X5_isRow l D yc t1 t2 A (mw a yc) g r (by omega)) (va_cwS 1 C.hts gX5_best_X5_isRow rfl rfl rfl (by decide +kernel) ⟨by decide, by decide⟩) rfl rfl (Nat.le_of_ble_eq_true rfl) dX5_best_11 ?_
    intro r9 g9 h9
    rw [h9.1, h9.2]
    clear h9 g9 r9
    try dsimp only
    refine v_ifb_ne (tgt := 19) C dX5_best_14 (by decide) (fun c14 => ?_) (fun c14 => ?_)
    · skip
      refine v_aload_n C 0 dX5_best_19 rfl ?_
      refine v_cV_i C (As := []) (rest := []) (c_X5_are l D yc t1 t2 a A g HI) (cwV 0 C.hts gX5_best_X5_are rfl rfl rfl (by decide +kernel) ⟨by decide, by decide⟩) (fun H hP => va_recv C.hK hP (ci := 5) (q0 := (0 : Int).toNat) rfl (wo_is (by omega) (by omega) ct_mod)) rfl rfl (Nat.le_of_ble_eq_true rfl) dX5_best_20 ?_
      intro r9 g9 h9
      rw [h9.1, h9.2]
      clear h9 g9 r9
      try dsimp only
      refine v_ifb_ne (tgt := 29) C dX5_best_23 (by decide) (fun c23 => ?_) (fun c23 => ?_)
      · skip
        have hp8 := pw_8 (n := n) (by omega) (by omega)
        refine v_iconst C dX5_best_29 ?_
        refine v_istore_n (lv' := [(3, .int (iI (0))), (0, .ref (a (0))), (1, .int (iI (n))), (2, .int (iI (r)))]) C dX5_best_30 (by decide) rfl ?_
        refine v_iconst C dX5_best_31 ?_
        refine v_istore (lv' := [(4, .int (iI (1))), (3, .int (iI (0))), (0, .ref (a (0))), (1, .int (iI (n))), (2, .int (iI (r)))]) C dX5_best_32 (by decide) rfl ?_
        refine v_lv (congrArg (fun x9 => ([(4, .int (iI x9)), (3, .int (iI (0))), (0, .ref (a (0))), (1, .int (iI (n))), (2, .int (iI (r)))] : List (Nat × Value))) (show (1) = (((1 : Int))) by first | rfl | omega | (simp; done))) ?_
        refine v_lv (congrArg (fun x9 => ([(4, .int (iI (((1 : Int))))), (3, .int (iI x9)), (0, .ref (a (0))), (1, .int (iI (n))), (2, .int (iI (r)))] : List (Nat × Value))) (show (0) = (ab (btr (g 6) n) (((1 : Int)) - 1).toNat) by first | rfl | omega | (simp; done))) ?_
        refine v_loop1 (fun (t : Int) => (pw n - t).toNat) (fun (t : Int) => 1 ≤ t ∧ t ≤ pw n) (fun (t : Int) => [(4, .int (iI (t))), (3, .int (iI (ab (btr (g 6) n) (t - 1).toNat))), (0, .ref (a (0))), (1, .int (iI (n))), (2, .int (iI (r)))]) (fun (t : Int) => g) ?_ 1 (by omega)
        intro t hI34 ih34
        try dsimp only at ih34 ⊢
        refine v_iload C 0 dX5_best_34 rfl ?_
        refine v_iconst C dX5_best_36 ?_
        refine v_iload_n C 3 dX5_best_37 rfl ?_
        refine v_ishl (z := (iI (pw n))) C dX5_best_38 (shl_1 (by omega) (by omega)) ?_
        refine v_icmp_ge (tgt := 95) C dX5_best_39 (by decide) (by omega) (by omega) (fun c39 => ?_) (fun c39 => ?_)
        · skip
          have hab := ab_r (btr (g 6) n) (t - 1).toNat
          have htp : (t - 1).toNat = (pw n - 1).toNat := by omega
          rw [htp] at hab
          refine v_lv (congrArg (fun x9 => ([(4, .int (iI (t))), (3, .int (iI x9)), (0, .ref (a (0))), (1, .int (iI (n))), (2, .int (iI (r)))] : List (Nat × Value))) (show (ab (btr (g 6) n) (t - 1).toNat) = ((ab (btr (g 6) n) (pw n - 1).toNat)) by rw [htp])) ?_
          refine v_aload_n C 2 dX5_best_95 rfl ?_
          refine v_iload_n C 4 dX5_best_96 rfl ?_
          refine v_iload_n C 3 dX5_best_97 rfl ?_
          refine v_cV_v C (As := [.int (iI (r)), .int (iI (n))]) (rest := []) (c_X5_lays l D yc t1 t2 a A g r n (by omega)) (cwV 2 C.hts gX5_best_X5_lays rfl rfl rfl (by decide +kernel) ⟨by decide, by decide⟩) (fun H hP => va_recv C.hK hP (ci := 5) (q0 := (0 : Int).toNat) rfl (wo_is (by omega) (by omega) ct_mod)) rfl rfl (Nat.le_of_ble_eq_true rfl) dX5_best_98 ?_
          intro g9 h9
          rw [h9]
          clear h9 g9
          try dsimp only
          refine v_iconst C dX5_best_101 ?_
          refine v_istore (lv' := [(4, .int (iI (0))), (3, .int (iI ((ab (btr (g 6) n) (pw n - 1).toNat)))), (0, .ref (a (0))), (1, .int (iI (n))), (2, .int (iI (r)))]) C dX5_best_102 (by decide) rfl ?_
          refine v_g (g' := (cpf (fls (mu g 1 r n) 2 (40 * r) 40 0) 2 (40 * r) 0 (fun x => if bt (ab (btr (g 6) n) (pw n - 1).toNat) (n - 1 - x) = 1 then 1 else 0))) (by rw [cpf_0]) ?_
          refine v_lv (congrArg (fun x9 => ([(4, .int (iI x9)), (3, .int (iI ((ab (btr (g 6) n) (pw n - 1).toNat)))), (0, .ref (a (0))), (1, .int (iI (n))), (2, .int (iI (r)))] : List (Nat × Value))) (show (0) = (((0 : Int))) by first | rfl | omega | (simp; done))) ?_
          refine v_loop1 (fun (y : Int) => (n - y).toNat) (fun (y : Int) => 0 ≤ y ∧ y ≤ n) (fun (y : Int) => [(4, .int (iI (y))), (3, .int (iI ((ab (btr (g 6) n) (pw n - 1).toNat)))), (0, .ref (a (0))), (1, .int (iI (n))), (2, .int (iI (r)))]) (fun (y : Int) => (cpf (fls (mu g 1 r n) 2 (40 * r) 40 0) 2 (40 * r) y (fun x => if bt (ab (btr (g 6) n) (pw n - 1).toNat) (n - 1 - x) = 1 then 1 else 0))) ?_ 0 (by omega)
          intro y hI104 ih104
          try dsimp only at ih104 ⊢
          refine v_iload C 0 dX5_best_104 rfl ?_
          refine v_iload_n C 3 dX5_best_106 rfl ?_
          refine v_icmp_ge (tgt := 146) C dX5_best_107 (by decide) (by omega) (by omega) (fun c107 => ?_) (fun c107 => ?_)
          · skip
            refine v_aload_n C 2 dX5_best_146 rfl ?_
            refine v_aload_n C 2 dX5_best_147 rfl ?_
            refine v_iload_n C 1 dX5_best_148 rfl ?_
            refine v_iload_n C 3 dX5_best_149 rfl ?_
            refine v_cV_i C (As := [.int (iI ((ab (btr (g 6) n) (pw n - 1).toNat))), .int (iI (n))]) (rest := [.ref (a (0))]) (c_X5_apartBy l D yc t1 t2 a A (cpf (fls (mu g 1 r n) 2 (40 * r) 40 0) 2 (40 * r) y (fun x => if bt (ab (btr (g 6) n) (pw n - 1).toNat) (n - 1 - x) = 1 then 1 else 0)) ((ab (btr (g 6) n) (pw n - 1).toNat)) n (by rw [cpf_o (by decide), fls_o (by decide), mu_ne (by decide)]; exact HI) (by rw [cpf_o (by decide), fls_o (by decide), mu_ne (by decide)]; omega) (by omega) (by omega)) (cwV 2 C.hts gX5_best_X5_apartBy rfl rfl rfl (by decide +kernel) ⟨by decide, by decide⟩) (fun H hP => va_recv C.hK hP (ci := 5) (q0 := (0 : Int).toNat) rfl (wo_is (by omega) (by omega) ct_mod)) rfl rfl (Nat.le_of_ble_eq_true rfl) dX5_best_150 ?_
            intro r9 g9 h9
            rw [h9.1, h9.2]
            clear h9 g9 r9
            try dsimp only
            refine v_st (st' := [.int (iI (apB (g 6) n (ab (btr (g 6) n) (pw n - 1).toNat))), .ref (a (0))]) (by rw [cpf_o (by decide), fls_o (by decide), mu_ne (by decide)]) ?_
            refine v_iload_n C 1 dX5_best_153 rfl ?_
            refine v_iload_n C 3 dX5_best_154 rfl ?_
            refine v_cS_i C (As := [.int (iI ((ab (btr (g 6) n) (pw n - 1).toNat))), .int (iI (n))]) (rest := [.int (iI (apB (g 6) n (ab (btr (g 6) n) (pw n - 1).toNat))), .ref (a (0))]) (c_X5_walksBy l D yc t1 t2 A (mw a yc) (cpf (fls (mu g 1 r n) 2 (40 * r) 40 0) 2 (40 * r) y (fun x => if bt (ab (btr (g 6) n) (pw n - 1).toNat) (n - 1 - x) = 1 then 1 else 0)) ((ab (btr (g 6) n) (pw n - 1).toNat)) n (by omega) (by omega)) (va_cwS 2 C.hts gX5_best_X5_walksBy rfl rfl rfl (by decide +kernel) ⟨by decide, by decide⟩) rfl rfl (Nat.le_of_ble_eq_true rfl) dX5_best_155 ?_
            intro r9 g9 h9
            rw [h9.1, h9.2]
            clear h9 g9 r9
            try dsimp only
            refine v_cV_i C (As := [.int (iI (apB (g 6) n (ab (btr (g 6) n) (pw n - 1).toNat))), .int (iI (wkB n ((ab (btr (g 6) n) (pw n - 1).toNat))))]) (rest := []) (c_X5_tells l D yc t1 t2 a A (cpf (fls (mu g 1 r n) 2 (40 * r) 40 0) 2 (40 * r) y (fun x => if bt (ab (btr (g 6) n) (pw n - 1).toNat) (n - 1 - x) = 1 then 1 else 0)) (apB (g 6) n (ab (btr (g 6) n) (pw n - 1).toNat)) (wkB n ((ab (btr (g 6) n) (pw n - 1).toNat)))) (cwV 2 C.hts gX5_best_X5_tells rfl rfl rfl (by decide +kernel) ⟨by decide, by decide⟩) (fun H hP => va_recv C.hK hP (ci := 5) (q0 := (0 : Int).toNat) rfl (wo_is (by omega) (by omega) ct_mod)) rfl rfl (Nat.le_of_ble_eq_true rfl) dX5_best_158 ?_
            intro r9 g9 h9
            rw [h9.1, h9.2]
            clear h9 g9 r9
            try dsimp only
            exact v_ret_i C rfl dX5_best_161 ⟨(by rw [if_neg (by omega), if_neg (by omega)]), (by rw [show y = n by omega, if_neg (by omega), if_neg (by omega)])⟩
          · skip
            refine v_aload_n C 2 dX5_best_110 rfl ?_
            refine v_getf C (by omega) (by omega) ct_mod rfl 1 (by decide) wf13 hinX5 rfl dX5_best_111 ?_
            refine v_bipush C dX5_best_114 (by decide) ?_
            refine v_iload_n C 4 dX5_best_116 rfl ?_
            refine v_imul C dX5_best_117 ?_
            refine v_iload C 0 dX5_best_118 rfl ?_
            refine v_iadd C dX5_best_120 ?_
            refine v_iload_n C 1 dX5_best_121 rfl ?_
            refine v_iload_n C 3 dX5_best_122 rfl ?_
            refine v_iconst C dX5_best_123 ?_
            refine v_isub C dX5_best_124 ?_
            refine v_iload C 0 dX5_best_125 rfl ?_
            refine v_isub C dX5_best_127 ?_
            refine v_cS_i C (As := [.int (iI ((ab (btr (g 6) n) (pw n - 1).toNat))), .int (iI ((n - 1) - y))]) (rest := [.int (iI ((40 * r) + y)), .ref (a (2))]) (c_X5_has l D yc t1 t2 A (mw a yc) (cpf (fls (mu g 1 r n) 2 (40 * r) 40 0) 2 (40 * r) y (fun x => if bt (ab (btr (g 6) n) (pw n - 1).toNat) (n - 1 - x) = 1 then 1 else 0)) ((ab (btr (g 6) n) (pw n - 1).toNat)) ((n - 1) - y) (by omega) (by omega)) (va_cwS 2 C.hts gX5_best_X5_has rfl rfl rfl (by decide +kernel) ⟨by decide, by decide⟩) rfl rfl (Nat.le_of_ble_eq_true rfl) dX5_best_128 ?_
            intro r9 g9 h9
            rw [h9.1, h9.2]
            clear h9 g9 r9
            try dsimp only
            refine v_ifb_eq (tgt := 138) C dX5_best_131 (by decide) (fun c131 => ?_) (fun c131 => ?_)
            · skip
              refine v_iconst C dX5_best_138 ?_
              refine v_iastore C (ctm_L a yc) (by omega) (by omega) ct_mitems (ct_mitems).symm (by omega) (by omega) (by decide) dX5_best_139 ?_
              refine v_iinc (z' := y + 1) (lv' := [(4, .int (iI (y + 1))), (3, .int (iI ((ab (btr (g 6) n) (pw n - 1).toNat)))), (0, .ref (a (0))), (1, .int (iI (n))), (2, .int (iI (r)))]) C 0 dX5_best_140 rfl (by omega) (by decide) rfl ?_
              refine v_goto (tgt := 104) C dX5_best_143 (by decide) ?_
              exact v_g (by rw [← cpf_s (by omega)]; first | rw [if_pos c131] | rw [if_neg c131]) (ih104 (y + 1) (by omega) (by omega))
            · skip
              refine v_iconst C dX5_best_134 ?_
              refine v_goto (tgt := 139) C dX5_best_135 (by decide) ?_
              refine v_iastore C (ctm_L a yc) (by omega) (by omega) ct_mitems (ct_mitems).symm (by omega) (by omega) (by decide) dX5_best_139 ?_
              refine v_iinc (z' := y + 1) (lv' := [(4, .int (iI (y + 1))), (3, .int (iI ((ab (btr (g 6) n) (pw n - 1).toNat)))), (0, .ref (a (0))), (1, .int (iI (n))), (2, .int (iI (r)))]) C 0 dX5_best_140 rfl (by omega) (by decide) rfl ?_
              refine v_goto (tgt := 104) C dX5_best_143 (by decide) ?_
              exact v_g (by rw [← cpf_s (by omega)]; first | rw [if_pos c131] | rw [if_neg c131]) (ih104 (y + 1) (by omega) (by omega))
        · skip
          have hab := ab_r (btr (g 6) n) (t - 1).toNat
          have a1 := apB_bd HI (by omega) (n := n) (by omega) (by omega) (ab (btr (g 6) n) (t - 1).toNat)
          have a2 := apB_bd HI (by omega) (n := n) (by omega) (by omega) t
          have w1 := wkB_bd (n := n) (by omega) (ab (btr (g 6) n) (t - 1).toNat)
          have w2 := wkB_bd (n := n) (by omega) t
          refine v_aload_n C 2 dX5_best_42 rfl ?_
          refine v_iload_n C 1 dX5_best_43 rfl ?_
          refine v_iload_n C 3 dX5_best_44 rfl ?_
          refine v_cV_i C (As := [.int (iI (ab (btr (g 6) n) (t - 1).toNat)), .int (iI (n))]) (rest := []) (c_X5_apartBy l D yc t1 t2 a A g (ab (btr (g 6) n) (t - 1).toNat) n HI (by omega) (by omega) (by omega)) (cwV 2 C.hts gX5_best_X5_apartBy rfl rfl rfl (by decide +kernel) ⟨by decide, by decide⟩) (fun H hP => va_recv C.hK hP (ci := 5) (q0 := (0 : Int).toNat) rfl (wo_is (by omega) (by omega) ct_mod)) rfl rfl (Nat.le_of_ble_eq_true rfl) dX5_best_45 ?_
          intro r9 g9 h9
          rw [h9.1, h9.2]
          clear h9 g9 r9
          try dsimp only
          refine v_aload_n C 2 dX5_best_48 rfl ?_
          refine v_iload C 0 dX5_best_49 rfl ?_
          refine v_iload_n C 3 dX5_best_51 rfl ?_
          refine v_cV_i C (As := [.int (iI (t)), .int (iI (n))]) (rest := [.int (iI (apB (g 6) n (ab (btr (g 6) n) (t - 1).toNat)))]) (c_X5_apartBy l D yc t1 t2 a A g t n HI (by omega) (by omega) (by omega)) (cwV 2 C.hts gX5_best_X5_apartBy rfl rfl rfl (by decide +kernel) ⟨by decide, by decide⟩) (fun H hP => va_recv C.hK hP (ci := 5) (q0 := (0 : Int).toNat) rfl (wo_is (by omega) (by omega) ct_mod)) rfl rfl (Nat.le_of_ble_eq_true rfl) dX5_best_52 ?_
          intro r9 g9 h9
          rw [h9.1, h9.2]
          clear h9 g9 r9
          try dsimp only
          refine v_isub C dX5_best_55 ?_
          refine v_istore (lv' := [(5, .int (iI ((apB (g 6) n (ab (btr (g 6) n) (t - 1).toNat)) - (apB (g 6) n t)))), (4, .int (iI (t))), (3, .int (iI (ab (btr (g 6) n) (t - 1).toNat))), (0, .ref (a (0))), (1, .int (iI (n))), (2, .int (iI (r)))]) C dX5_best_56 (by decide) rfl ?_
          refine v_cut1 88 (fun (v88 : Int) => v88 = ab (btr (g 6) n) t.toNat) (fun (v88 : Int) => [(5, .int (iI ((apB (g 6) n (ab (btr (g 6) n) (t - 1).toNat)) - (apB (g 6) n t)))), (4, .int (iI (t))), (3, .int (iI (ab (btr (g 6) n) (t - 1).toNat))), (0, .ref (a (0))), (1, .int (iI (n))), (2, .int (iI (r)))]) (fun (v88 : Int) => [.int (iI (v88))]) (fun (v88 : Int) => g) ?_ ?_
          · intro v88 hj88
            try dsimp only
            refine v_st (st' := [.int (iI (ab (btr (g 6) n) (t + 1 - 1).toNat))]) (by rw [hj88, show t + 1 - 1 = t by omega]) ?_
            refine v_istore_n (lv' := [(3, .int (iI (ab (btr (g 6) n) (t + 1 - 1).toNat))), (5, .int (iI ((apB (g 6) n (ab (btr (g 6) n) (t - 1).toNat)) - (apB (g 6) n t)))), (4, .int (iI (t))), (0, .ref (a (0))), (1, .int (iI (n))), (2, .int (iI (r)))]) C dX5_best_88 (by decide) rfl ?_
            refine v_iinc (z' := t + 1) (lv' := [(4, .int (iI (t + 1))), (3, .int (iI (ab (btr (g 6) n) (t + 1 - 1).toNat))), (5, .int (iI ((apB (g 6) n (ab (btr (g 6) n) (t - 1).toNat)) - (apB (g 6) n t)))), (0, .ref (a (0))), (1, .int (iI (n))), (2, .int (iI (r)))]) C 2 dX5_best_89 rfl (by omega) (by decide) rfl ?_
            refine v_goto (tgt := 34) C dX5_best_92 (by decide) ?_
            refine v_sub (lv' := [(4, .int (iI (t + 1))), (3, .int (iI (ab (btr (g 6) n) (t + 1 - 1).toNat))), (0, .ref (a (0))), (1, .int (iI (n))), (2, .int (iI (r)))]) [0, 1, 3, 4, 5] rfl ?_
            refine v_lv (congrArg (fun x9 => ([(4, .int (iI (t + 1))), (3, .int (iI x9)), (0, .ref (a (0))), (1, .int (iI (n))), (2, .int (iI (r)))] : List (Nat × Value))) (show (ab (btr (g 6) n) (t + 1 - 1).toNat) = (ab (btr (g 6) n) ((t + 1) - 1).toNat) by first | rfl | (omega))) ?_
            exact ih34 (t + 1) (by omega) (by omega)
          · intro jn88
            try dsimp only at jn88
            refine v_iload C 0 dX5_best_58 rfl ?_
            refine v_if_gt (tgt := 82) C dX5_best_60 (by decide) (by omega) (fun c60 => ?_) (fun c60 => ?_)
            · skip
              refine v_iload C 1 dX5_best_82 rfl ?_
              refine v_goto (tgt := 88) C dX5_best_84 (by decide) ?_
              exact jn88 t (by rw [ab_s (t := t) (by omega)]; first | rw [if_pos (by exact decide_eq_true (by omega))] | rw [if_neg (by exact fun h => absurd (of_decide_eq_true h) (by omega))])
            · skip
              refine v_iload C 0 dX5_best_63 rfl ?_
              refine v_if_ne (tgt := 87) C dX5_best_65 (by decide) (by omega) (fun c65 => ?_) (fun c65 => ?_)
              · skip
                refine v_iload_n C 2 dX5_best_87 rfl ?_
                exact jn88 (ab (btr (g 6) n) (t - 1).toNat) (by rw [ab_s (t := t) (by omega)]; first | rw [if_pos (by exact decide_eq_true (by omega))] | rw [if_neg (by exact fun h => absurd (of_decide_eq_true h) (by omega))])
              · skip
                refine v_iload C 1 dX5_best_68 rfl ?_
                refine v_iload_n C 4 dX5_best_70 rfl ?_
                refine v_cS_i C (As := [.int (iI (t)), .int (iI (n))]) (rest := []) (c_X5_walksBy l D yc t1 t2 A (mw a yc) g t n (by omega) (by omega)) (va_cwS 2 C.hts gX5_best_X5_walksBy rfl rfl rfl (by decide +kernel) ⟨by decide, by decide⟩) rfl rfl (Nat.le_of_ble_eq_true rfl) dX5_best_71 ?_
                intro r9 g9 h9
                rw [h9.1, h9.2]
                clear h9 g9 r9
                try dsimp only
                refine v_iload_n C 2 dX5_best_74 rfl ?_
                refine v_iload_n C 4 dX5_best_75 rfl ?_
                refine v_cS_i C (As := [.int (iI (ab (btr (g 6) n) (t - 1).toNat)), .int (iI (n))]) (rest := [.int (iI (wkB n t))]) (c_X5_walksBy l D yc t1 t2 A (mw a yc) g (ab (btr (g 6) n) (t - 1).toNat) n (by omega) (by omega)) (va_cwS 2 C.hts gX5_best_X5_walksBy rfl rfl rfl (by decide +kernel) ⟨by decide, by decide⟩) rfl rfl (Nat.le_of_ble_eq_true rfl) dX5_best_76 ?_
                intro r9 g9 h9
                rw [h9.1, h9.2]
                clear h9 g9 r9
                try dsimp only
                refine v_icmp_ge (tgt := 87) C dX5_best_79 (by decide) (by omega) (by omega) (fun c79 => ?_) (fun c79 => ?_)
                · skip
                  refine v_iload_n C 2 dX5_best_87 rfl ?_
                  exact jn88 (ab (btr (g 6) n) (t - 1).toNat) (by rw [ab_s (t := t) (by omega)]; first | rw [if_pos (by exact decide_eq_true (by omega))] | rw [if_neg (by exact fun h => absurd (of_decide_eq_true h) (by omega))])
                · skip
                  refine v_iload C 1 dX5_best_82 rfl ?_
                  refine v_goto (tgt := 88) C dX5_best_84 (by decide) ?_
                  exact jn88 t (by rw [ab_s (t := t) (by omega)]; first | rw [if_pos (by exact decide_eq_true (by omega))] | rw [if_neg (by exact fun h => absurd (of_decide_eq_true h) (by omega))])
      · skip
        refine v_bipush C dX5_best_26 (by decide) ?_
        exact v_ret_i C rfl dX5_best_28 ⟨(by repeat (first | rfl | rw [if_pos (by omega)] | rw [if_neg (by omega)])), (by repeat (first | rfl | rw [if_pos (by omega)] | rw [if_neg (by omega)]))⟩
    · skip
      refine v_iconst C dX5_best_17 ?_
      exact v_ret_i C rfl dX5_best_18 ⟨(by repeat (first | rfl | rw [if_pos (by omega)] | rw [if_neg (by omega)])), (by repeat (first | rfl | rw [if_pos (by omega)] | rw [if_neg (by omega)]))⟩
