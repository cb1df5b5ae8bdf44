set_option maxRecDepth 100000 in
set_option maxHeartbeats 4000000 in
theorem c_X5_fault (l : Launch) (D : va_G) (yc : Nat → ClassId) (t1 t2 : Nat) (a : Int → Nat) (A : Nat → Prop) (g : Mm) (t : Int) (ht : R32 t) (HM : MI g) : Ci l yX5_fault wsX5_fault { frames := 4, cells := 0, slots := 0, locals := 87 } D yc t1 t2 A (mw a yc) [.ref (a (0)), .int (iI (t))] g (fun r9 g' => r9 = (iI (if t < 0 ∨ 3 < t then -1 else if g 4 t < 0 then -3 else if (qB (fun x9 => g 5 (60 * t + x9)) (g 4 t) (zD g)).2.1 = 0 then (qB (fun x9 => g 5 (60 * t + x9)) (g 4 t) (zD g)).1 else -9)) ∧ g' = (if t < 0 ∨ 3 < t then g else if g 4 t < 0 then fnM g 1 else (pS g (qB (fun x9 => g 5 (60 * t + x9)) (g 4 t) (zD g)).2.2 (qB (fun x9 => g 5 (60 * t + x9)) (g 4 t) (zD g)).1 (qB (fun x9 => g 5 (60 * t + x9)) (g 4 t) (zD g)).2.1))) := by
  refine start_i (cc := cX5_fault) (nL := 2) (ret := (some .int)) (own := RX5) (by decide +kernel) rfl rfl (Nat.le_of_ble_eq_true rfl) ?_
  intro p e s m9 below meth c9 C
  have wf19 : Cond.fieldLink RX5 19 (TX5 3).1 (TX5 3).2.1 (TX5 3).2.2.1 ∈ wsX5_fault := by decide +kernel
  have hinX5 : ∀ w ∈ u_ws RX5 TX5 17, w ∈ wsX5_fault := by decide +kernel
  have hL : 0 ≤ t → t < 4 → -1 ≤ g 4 t ∧ g 4 t ≤ 60 := fun a b => HM.ln a b
  have HB := HM.by
  refine v_lv (lv' := [(0, .ref (a (0))), (1, .int (iI (t)))]) rfl ?_
  refine v_iload_n C 1 dX5_fault_0 rfl ?_
  refine v_cS_i C (As := [.int (iI (t))]) (rest := []) (c_X5_isText l D yc t1 t2 A (mw a yc) g t (by omega)) (va_cwS 1 C.hts gX5_fault_X5_isText rfl rfl rfl (by decide +kernel) ⟨by decide, by decide⟩) rfl rfl (Nat.le_of_ble_eq_true rfl) dX5_fault_1 ?_
  intro r9 g9 h9
  rw [h9.1, h9.2]
  clear h9 g9 r9
  try dsimp only
  refine v_ifb_ne (tgt := 9) C dX5_fault_4 (by decide) (fun c4 => ?_) (fun c4 => ?_)
  · skip
    have hL2 := hL (by omega) (by omega)
    refine v_aload_n C 0 dX5_fault_9 rfl ?_
    refine v_getf C (by omega) (by omega) ct_mod rfl 3 (by decide) wf19 hinX5 rfl dX5_fault_10 ?_
    refine v_iload_n C 1 dX5_fault_13 rfl ?_
    refine v_iaload C (by omega) (by omega) ct_mlengths (by omega) (by omega) (by decide) dX5_fault_14 ?_
    refine v_if_ge (tgt := 26) C dX5_fault_15 (by decide) (by omega) (fun c15 => ?_) (fun c15 => ?_)
    · skip
      refine v_aload_n C 0 dX5_fault_26 rfl ?_
      refine v_iload_n C 1 dX5_fault_27 rfl ?_
      refine v_cV_i C (As := [.int (iI (t))]) (rest := []) (c_X5_reads l D yc t1 t2 a A g t (by omega) (by omega) HB) (cwV 1 C.hts gX5_fault_X5_reads rfl rfl rfl (by decide +kernel) ⟨by decide, by decide⟩) (fun H hP => va_recv C.hK hP (ci := 5) (q0 := (0 : Int).toNat) rfl (wo_is (by omega) (by omega) ct_mod)) rfl rfl (Nat.le_of_ble_eq_true rfl) dX5_fault_28 ?_
      intro r9 g9 h9
      rw [h9.1, h9.2]
      clear h9 g9 r9
      try dsimp only
      exact v_ret_i C rfl dX5_fault_31 ⟨(by first | rw [if_pos (show t < 0 ∨ 3 < t by omega)] | rw [if_neg (show ¬ (t < 0 ∨ 3 < t) by omega), if_pos (show g 4 t < 0 by omega)] | rw [if_neg (show ¬ (t < 0 ∨ 3 < t) by omega), if_neg (show ¬ g 4 t < 0 by omega)]), (by repeat (first | rfl | rw [if_pos (by omega)] | rw [if_neg (by omega)]))⟩
    · skip
      refine v_aload_n C 0 dX5_fault_18 rfl ?_
      refine v_iconst C dX5_fault_19 ?_
      refine v_cV_i C (As := [.int (iI (1))]) (rest := []) (c_X5_finds l D yc t1 t2 a A g 1 (by omega)) (cwV 1 C.hts gX5_fault_X5_finds rfl rfl rfl (by decide +kernel) ⟨by decide, by decide⟩) (fun H hP => va_recv C.hK hP (ci := 5) (q0 := (0 : Int).toNat) rfl (wo_is (by omega) (by omega) ct_mod)) rfl rfl (Nat.le_of_ble_eq_true rfl) dX5_fault_20 ?_
      intro r9 g9 h9
      rw [h9.1, h9.2]
      clear h9 g9 r9
      try dsimp only
      refine v_goto (tgt := 31) C dX5_fault_23 (by decide) ?_
      exact v_ret_i C rfl dX5_fault_31 ⟨(by first | rw [if_pos (show t < 0 ∨ 3 < t by omega)] | rw [if_neg (show ¬ (t < 0 ∨ 3 < t) by omega), if_pos (show g 4 t < 0 by omega)] | rw [if_neg (show ¬ (t < 0 ∨ 3 < t) by omega), if_neg (show ¬ g 4 t < 0 by omega)]), (by repeat (first | rfl | rw [if_pos (by omega)] | rw [if_neg (by omega)]))⟩
  · skip
    refine v_iconst C dX5_fault_7 ?_
    exact v_ret_i C rfl dX5_fault_8 ⟨(by first | rw [if_pos (show t < 0 ∨ 3 < t by omega)] | rw [if_neg (show ¬ (t < 0 ∨ 3 < t) by omega), if_pos (show g 4 t < 0 by omega)] | rw [if_neg (show ¬ (t < 0 ∨ 3 < t) by omega), if_neg (show ¬ g 4 t < 0 by omega)]), (by repeat (first | rfl | rw [if_pos (by omega)] | rw [if_neg (by omega)]))⟩

set_option maxRecDepth 100000 in
set_option maxHeartbeats 4000000 in
theorem c_X5_farms (l : Launch) (D : va_G) (yc : Nat → ClassId) (t1 t2 : Nat) (a : Int → Nat) (A : Nat → Prop) (g : Mm) (t : Int) (ht : R32 t) (HM : MI g) : Ci l yX5_farms wsX5_farms { frames := 4, cells := 0, slots := 0, locals := 87 } D yc t1 t2 A (mw a yc) [.ref (a (0)), .int (iI (t))] g (fun r9 g' => r9 = (iI (if t < 0 ∨ 3 < t then -1 else if g 4 t < 0 then -3 else if (qB (fun x9 => g 5 (60 * t + x9)) (g 4 t) (zD g)).2.1 = 0 then -4 else (qB (fun x9 => g 5 (60 * t + x9)) (g 4 t) (zD g)).2.2 0)) ∧ g' = (if t < 0 ∨ 3 < t then g else if g 4 t < 0 then fnM g 1 else if (qB (fun x9 => g 5 (60 * t + x9)) (g 4 t) (zD g)).2.1 = 0 then (pS g (qB (fun x9 => g 5 (60 * t + x9)) (g 4 t) (zD g)).2.2 (qB (fun x9 => g 5 (60 * t + x9)) (g 4 t) (zD g)).1 (qB (fun x9 => g 5 (60 * t + x9)) (g 4 t) (zD g)).2.1) else fls (cpf (pS g (qB (fun x9 => g 5 (60 * t + x9)) (g 4 t) (zD g)).2.2 (qB (fun x9 => g 5 (60 * t + x9)) (g 4 t) (zD g)).1 (qB (fun x9 => g 5 (60 * t + x9)) (g 4 t) (zD g)).2.1) 6 0 98 (qB (fun x9 => g 5 (60 * t + x9)) (g 4 t) (zD g)).2.2) 9 0 3 0)) := by
  refine start_i (cc := cX5_farms) (nL := 3) (ret := (some .int)) (own := RX5) (by decide +kernel) rfl rfl (Nat.le_of_ble_eq_true rfl) ?_
  intro p e s m9 below meth c9 C
  have wf19 : Cond.fieldLink RX5 19 (TX5 3).1 (TX5 3).2.1 (TX5 3).2.2.1 ∈ wsX5_farms := by decide +kernel
  have hinX5 : ∀ w ∈ u_ws RX5 TX5 17, w ∈ wsX5_farms := by decide +kernel
  have wf28 : Cond.fieldLink RX5 28 (TX5 6).1 (TX5 6).2.1 (TX5 6).2.2.1 ∈ wsX5_farms := by decide +kernel
  have wf25 : Cond.fieldLink RX5 25 (TX5 5).1 (TX5 5).2.1 (TX5 5).2.2.1 ∈ wsX5_farms := by decide +kernel
  have wf34 : Cond.fieldLink RX5 34 (TX5 8).1 (TX5 8).2.1 (TX5 8).2.2.1 ∈ wsX5_farms := by decide +kernel
  have hL : 0 ≤ t → t < 4 → -1 ≤ g 4 t ∧ g 4 t ≤ 60 := fun a b => HM.ln a b
  have HB := HM.by
  have hq1 : (qB (fun x9 => g 5 (60 * t + x9)) (g 4 t) (zD g)).1 ≥ 0 ∨ (qB (fun x9 => g 5 (60 * t + x9)) (g 4 t) (zD g)).1 < 0 := (by omega)
  refine v_lv (lv' := [(0, .ref (a (0))), (1, .int (iI (t)))]) rfl ?_
  refine v_iload_n C 1 dX5_farms_0 rfl ?_
  refine v_cS_i C (As := [.int (iI (t))]) (rest := []) (c_X5_isText l D yc t1 t2 A (mw a yc) g t (by omega)) (va_cwS 1 C.hts gX5_farms_X5_isText rfl rfl rfl (by decide +kernel) ⟨by decide, by decide⟩) rfl rfl (Nat.le_of_ble_eq_true rfl) dX5_farms_1 ?_
  intro r9 g9 h9
  rw [h9.1, h9.2]
  clear h9 g9 r9
  try dsimp only
  refine v_ifb_ne (tgt := 9) C dX5_farms_4 (by decide) (fun c4 => ?_) (fun c4 => ?_)
  · skip
    have hL2 := hL (by omega) (by omega)
    have hqr := qB_r (B := (fun x9 => g 5 (60 * t + x9))) (D := zD g) hL2.2 (zD_0 g (by decide) (by decide))
    refine v_aload_n C 0 dX5_farms_9 rfl ?_
    refine v_getf C (by omega) (by omega) ct_mod rfl 3 (by decide) wf19 hinX5 rfl dX5_farms_10 ?_
    refine v_iload_n C 1 dX5_farms_13 rfl ?_
    refine v_iaload C (by omega) (by omega) ct_mlengths (by omega) (by omega) (by decide) dX5_farms_14 ?_
    refine v_if_ge (tgt := 24) C dX5_farms_15 (by decide) (by omega) (fun c15 => ?_) (fun c15 => ?_)
    · skip
      refine v_aload_n C 0 dX5_farms_24 rfl ?_
      refine v_iload_n C 1 dX5_farms_25 rfl ?_
      refine v_cV_i C (As := [.int (iI (t))]) (rest := []) (c_X5_reads l D yc t1 t2 a A g t (by omega) (by omega) HB) (cwV 1 C.hts gX5_farms_X5_reads rfl rfl rfl (by decide +kernel) ⟨by decide, by decide⟩) (fun H hP => va_recv C.hK hP (ci := 5) (q0 := (0 : Int).toNat) rfl (wo_is (by omega) (by omega) ct_mod)) rfl rfl (Nat.le_of_ble_eq_true rfl) dX5_farms_26 ?_
      intro r9 g9 h9
      rw [h9.1, h9.2]
      clear h9 g9 r9
      try dsimp only
      refine v_bipush C dX5_farms_29 (by decide) ?_
      refine v_icmp_eq (tgt := 37) C dX5_farms_31 (by decide) (by omega) (by omega) (fun c31 => ?_) (fun c31 => ?_)
      · skip
        refine v_aload_n C 0 dX5_farms_37 rfl ?_
        refine v_getf C (by omega) (by omega) ct_mod rfl 6 (by decide) wf28 hinX5 rfl dX5_farms_38 ?_
        refine v_iconst C dX5_farms_41 ?_
        refine v_aload_n C 0 dX5_farms_42 rfl ?_
        refine v_getf C (by omega) (by omega) ct_mod rfl 5 (by decide) wf25 hinX5 rfl dX5_farms_43 ?_
        refine v_iconst C dX5_farms_46 ?_
        refine v_cS_v C (As := [.ref (a (7)), .int (iI (0)), .ref (a (6)), .int (iI (0))]) (rest := []) (c_X5_copies_dn l D yc t1 t2 a A (pS g (qB (fun x9 => g 5 (60 * t + x9)) (g 4 t) (zD g)).2.2 (qB (fun x9 => g 5 (60 * t + x9)) (g 4 t) (zD g)).1 (qB (fun x9 => g 5 (60 * t + x9)) (g 4 t) (zD g)).2.1) 0 0 (by omega) (by omega)) (va_cwS 4 C.hts gX5_farms_X5_copies rfl rfl rfl (by decide +kernel) ⟨by decide, by decide⟩) rfl rfl (Nat.le_of_ble_eq_true rfl) dX5_farms_47 ?_
        intro g9 h9
        rw [h9]
        clear h9 g9
        try dsimp only
        refine v_g (g' := (cpf (pS g (qB (fun x9 => g 5 (60 * t + x9)) (g 4 t) (zD g)).2.2 (qB (fun x9 => g 5 (60 * t + x9)) (g 4 t) (zD g)).1 (qB (fun x9 => g 5 (60 * t + x9)) (g 4 t) (zD g)).2.1) 6 0 98 (qB (fun x9 => g 5 (60 * t + x9)) (g 4 t) (zD g)).2.2)) (by rw [pS_D]; simp only [Int.zero_add]) ?_
        refine v_iconst C dX5_farms_50 ?_
        refine v_istore_n (lv' := [(2, .int (iI (0))), (0, .ref (a (0))), (1, .int (iI (t)))]) C dX5_farms_51 (by decide) rfl ?_
        refine v_g (g' := (fls (cpf (pS g (qB (fun x9 => g 5 (60 * t + x9)) (g 4 t) (zD g)).2.2 (qB (fun x9 => g 5 (60 * t + x9)) (g 4 t) (zD g)).1 (qB (fun x9 => g 5 (60 * t + x9)) (g 4 t) (zD g)).2.1) 6 0 98 (qB (fun x9 => g 5 (60 * t + x9)) (g 4 t) (zD g)).2.2) 9 0 0 0)) (by rw [fls_0]) ?_
        refine v_lv (congrArg (fun x9 => ([(2, .int (iI x9)), (0, .ref (a (0))), (1, .int (iI (t)))] : List (Nat × Value))) (show (0) = (((0 : Int))) by first | rfl | omega | (simp; done))) ?_
        refine v_loop1 (fun (x : Int) => (3 - x).toNat) (fun (x : Int) => 0 ≤ x ∧ x ≤ 3) (fun (x : Int) => [(2, .int (iI (x))), (0, .ref (a (0))), (1, .int (iI (t)))]) (fun (x : Int) => (fls (cpf (pS g (qB (fun x9 => g 5 (60 * t + x9)) (g 4 t) (zD g)).2.2 (qB (fun x9 => g 5 (60 * t + x9)) (g 4 t) (zD g)).1 (qB (fun x9 => g 5 (60 * t + x9)) (g 4 t) (zD g)).2.1) 6 0 98 (qB (fun x9 => g 5 (60 * t + x9)) (g 4 t) (zD g)).2.2) 9 0 x 0)) ?_ 0 (by omega)
        intro x hI52 ih52
        try dsimp only at ih52 ⊢
        refine v_iload_n C 0 dX5_farms_52 rfl ?_
        refine v_iconst C dX5_farms_53 ?_
        refine v_icmp_ge (tgt := 70) C dX5_farms_54 (by decide) (by omega) (by omega) (fun c54 => ?_) (fun c54 => ?_)
        · skip
          refine v_aload_n C 1 dX5_farms_70 rfl ?_
          refine v_getf C (by omega) (by omega) ct_mod rfl 5 (by decide) wf25 hinX5 rfl dX5_farms_71 ?_
          refine v_iconst C dX5_farms_74 ?_
          refine v_iaload C (by omega) (by omega) ct_mnow (by omega) (by omega) (by decide) dX5_farms_75 ?_
          refine v_st (st' := [.int (iI ((qB (fun x9 => g 5 (60 * t + x9)) (g 4 t) (zD g)).2.2 0))]) (by rw [fls_o (by decide)]; unfold cpf; rw [if_pos ⟨rfl, by omega, by omega⟩]; rfl) ?_
          exact v_ret_i C rfl dX5_farms_76 ⟨(by repeat (first | rfl | rw [if_pos (by omega)] | rw [if_neg (by omega)])), (by (first | rw [show x = 3 by omega] | skip); repeat (first | rfl | rw [if_pos (by omega)] | rw [if_neg (by omega)]))⟩
        · skip
          refine v_aload_n C 1 dX5_farms_57 rfl ?_
          refine v_getf C (by omega) (by omega) ct_mod rfl 8 (by decide) wf34 hinX5 rfl dX5_farms_58 ?_
          refine v_iload_n C 0 dX5_farms_61 rfl ?_
          refine v_iconst C dX5_farms_62 ?_
          refine v_zastore C (ctm_L a yc) (by omega) (by omega) ct_misKept (ct_misKept).symm (by omega) (by omega) (by omega) (by decide) dX5_farms_63 ?_
          refine v_iinc (z' := x + 1) (lv' := [(2, .int (iI (x + 1))), (0, .ref (a (0))), (1, .int (iI (t)))]) C 0 dX5_farms_64 rfl (by omega) (by decide) rfl ?_
          refine v_goto (tgt := 52) C dX5_farms_67 (by decide) ?_
          exact v_g (fls_s0 (by omega)) (ih52 (x + 1) (by omega) (by omega))
      · skip
        refine v_bipush C dX5_farms_34 (by decide) ?_
        exact v_ret_i C rfl dX5_farms_36 ⟨(by repeat (first | rfl | rw [if_pos (by omega)] | rw [if_neg (by omega)])), (by (first | rw [show x = 3 by omega] | skip); repeat (first | rfl | rw [if_pos (by omega)] | rw [if_neg (by omega)]))⟩
    · skip
      refine v_aload_n C 0 dX5_farms_18 rfl ?_
      refine v_iconst C dX5_farms_19 ?_
      refine v_cV_i C (As := [.int (iI (1))]) (rest := []) (c_X5_finds l D yc t1 t2 a A g 1 (by omega)) (cwV 1 C.hts gX5_farms_X5_finds rfl rfl rfl (by decide +kernel) ⟨by decide, by decide⟩) (fun H hP => va_recv C.hK hP (ci := 5) (q0 := (0 : Int).toNat) rfl (wo_is (by omega) (by omega) ct_mod)) rfl rfl (Nat.le_of_ble_eq_true rfl) dX5_farms_20 ?_
      intro r9 g9 h9
      rw [h9.1, h9.2]
      clear h9 g9 r9
      try dsimp only
      exact v_ret_i C rfl dX5_farms_23 ⟨(by repeat (first | rfl | rw [if_pos (by omega)] | rw [if_neg (by omega)])), (by (first | rw [show x = 3 by omega] | skip); repeat (first | rfl | rw [if_pos (by omega)] | rw [if_neg (by omega)]))⟩
  · skip
    refine v_iconst C dX5_farms_7 ?_
    exact v_ret_i C rfl dX5_farms_8 ⟨(by repeat (first | rfl | rw [if_pos (by omega)] | rw [if_neg (by omega)])), (by (first | rw [show x = 3 by omega] | skip); repeat (first | rfl | rw [if_pos (by omega)] | rw [if_neg (by omega)]))⟩
