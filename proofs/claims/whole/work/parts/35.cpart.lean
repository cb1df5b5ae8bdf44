set_option maxRecDepth 100000 in
set_option maxHeartbeats 4000000 in
theorem c_X4_part (l : Launch) (D : va_G) (yc : Nat → ClassId) (t1 t2 : Nat) (a : Int → Nat) (A : Nat → Prop) (g : Mm) (F : Int → Int) (HF : FR g 0 F) (HI : FI F) : Ci l yX4_part wsX4_part { frames := 2, cells := 0, slots := 0, locals := 45 } D yc t1 t2 A (cw a yc) [.ref (a (0))] g (fun r9 g' => r9 = (iI (if F 0 = 0 then -4 else (ab (lsB F) (pw (F 0) - 1).toNat))) ∧ g' = (if F 0 = 0 then g else mu g 0 7 (ls F (ab (lsB F) (pw (F 0) - 1).toNat)))) := by
  refine start_i (cc := cX4_part) (nL := 6) (ret := (some .int)) (own := RX4) (by decide +kernel) rfl rfl (Nat.le_of_ble_eq_true rfl) ?_
  intro p e s m9 below meth c9 C
  have wf21 : Cond.fieldLink RX4 21 (TX4 2).1 (TX4 2).2.1 (TX4 2).2.2.1 ∈ wsX4_part := by decide +kernel
  have hinX4 : ∀ w ∈ u_ws RX4 TX4 10, w ∈ wsX4_part := by decide +kernel
  have wf74 : Cond.fieldLink RX4 74 (TX4 7).1 (TX4 7).2.1 (TX4 7).2.2.1 ∈ wsX4_part := by decide +kernel
  have wm235 : Cond.methodLink RX4 235 Lib.Math.min.name ∈ wsX4_part := by decide +kernel
  have wnmin : Cond.static Lib.Math.min.name ∈ wsX4_part := by decide +kernel
  have wmi : Cond.initialized "java/lang/Math" ∈ wsX4_part := by decide +kernel
  have womin : Cond.code Lib.Math.min.name Lib.Math.min.code 2 (some .int) ∈ wsX4_part := by decide +kernel
  have hn := HI.n
  have ho := ow_bd HI
  have hpp := pw_pos (F 0)
  refine v_lv (lv' := [(0, .ref (a (0)))]) rfl ?_
  refine v_aload_n C 0 dX4_part_0 rfl ?_
  refine v_getf C (by omega) (by omega) ct_cow rfl 2 (by decide) wf21 hinX4 rfl dX4_part_1 ?_
  refine v_st (st' := [.ref (a (26 + 0))]) rfl ?_
  refine v_cV_i C (As := []) (rest := []) (c_X1_isMissing l D yc t1 t2 a A g 0 F (by omega) HF HI) (cwV 0 C.hts gX4_part_X1_isMissing rfl rfl rfl (by decide +kernel) ⟨by decide, by decide⟩) (fun H hP => va_recv C.hK hP (ci := 1) (q0 := (26 + 0 : Int).toNat) rfl (wo_is (by omega) (by omega) (ct_farm (by omega) (by omega)))) rfl rfl (Nat.le_of_ble_eq_true rfl) dX4_part_4 ?_
  intro r9 g9 h9
  rw [h9.1, h9.2]
  clear h9 g9 r9
  try dsimp only
  refine v_ifb_eq (tgt := 13) C dX4_part_7 (by decide) (fun c7 => ?_) (fun c7 => ?_)
  · skip
    refine v_iconst C dX4_part_13 ?_
    refine v_istore_n (lv' := [(1, .int (iI (0))), (0, .ref (a (0)))]) C dX4_part_14 (by decide) rfl ?_
    refine v_iconst C dX4_part_15 ?_
    refine v_istore_n (lv' := [(2, .int (iI (-1))), (1, .int (iI (0))), (0, .ref (a (0)))]) C dX4_part_16 (by decide) rfl ?_
    refine v_aload_n C 2 dX4_part_17 rfl ?_
    refine v_getf C (by omega) (by omega) ct_cow rfl 2 (by decide) wf21 hinX4 rfl dX4_part_18 ?_
    refine v_st (st' := [.ref (a (26 + 0))]) rfl ?_
    refine v_cV_i C (As := []) (rest := []) (c_X1_allBeasts l D yc t1 t2 a A g 0 F (by omega) HF HI) (cwV 0 C.hts gX4_part_X1_allBeasts rfl rfl rfl (by decide +kernel) ⟨by decide, by decide⟩) (fun H hP => va_recv C.hK hP (ci := 1) (q0 := (26 + 0 : Int).toNat) rfl (wo_is (by omega) (by omega) (ct_farm (by omega) (by omega)))) rfl rfl (Nat.le_of_ble_eq_true rfl) dX4_part_21 ?_
    intro r9 g9 h9
    rw [h9.1, h9.2]
    clear h9 g9 r9
    try dsimp only
    refine v_istore_n (lv' := [(3, .int (iI (pw (F 0) - 1))), (2, .int (iI (-1))), (1, .int (iI (0))), (0, .ref (a (0)))]) C dX4_part_24 (by decide) rfl ?_
    refine v_iconst C dX4_part_25 ?_
    refine v_istore (lv' := [(4, .int (iI (0))), (3, .int (iI (pw (F 0) - 1))), (2, .int (iI (-1))), (1, .int (iI (0))), (0, .ref (a (0)))]) C dX4_part_26 (by decide) rfl ?_
    refine v_lv (congrArg (fun x9 => ([(4, .int (iI x9)), (3, .int (iI (pw (F 0) - 1))), (2, .int (iI (-1))), (1, .int (iI (0))), (0, .ref (a (0)))] : List (Nat × Value))) (show (0) = (((0 : Int))) by first | rfl | omega | (simp; done))) ?_
    refine v_lv (congrArg (fun x9 => ([(4, .int (iI (((0 : Int))))), (3, .int (iI (pw (F 0) - 1))), (2, .int (iI (-1))), (1, .int (iI x9)), (0, .ref (a (0)))] : List (Nat × Value))) (show (0) = (((0 : Int))) by first | rfl | omega | (simp; done))) ?_
    refine v_loop3 (fun (x : Int) (y : Int) (t : Int) => (pw (F 0) - t).toNat) (fun (x : Int) (y : Int) (t : Int) => 0 ≤ t ∧ t ≤ pw (F 0) ∧ (t = 0 → x = 0 ∧ y = -1) ∧ (0 < t → x = ab (lsB F) (t - 1).toNat ∧ y = ls F x)) (fun (x : Int) (y : Int) (t : Int) => [(4, .int (iI (t))), (3, .int (iI (pw (F 0) - 1))), (2, .int (iI (y))), (1, .int (iI (x))), (0, .ref (a (0)))]) (fun (x : Int) (y : Int) (t : Int) => g) ?_ 0 (-1) 0 ⟨by omega, by omega, fun _ => ⟨rfl, rfl⟩, fun h => absurd h (by omega)⟩
    intro x y t hI28 ih28
    try dsimp only at ih28 ⊢
    refine v_iload C 0 dX4_part_28 rfl ?_
    refine v_iload_n C 1 dX4_part_30 rfl ?_
    refine v_icmp_gt (tgt := 79) C dX4_part_31 (by decide) (by omega) (by omega) (fun c31 => ?_) (fun c31 => ?_)
    · skip
      refine v_aload_n C 4 dX4_part_79 rfl ?_
      refine v_iload_n C 2 dX4_part_80 rfl ?_
      refine v_puti C (cta_L a yc) (by omega) (by omega) ct_cow rfl 7 (by decide) wf74 hinX4 tyX4 tyX4_ok nmX4 rfl (by decide +kernel) (by simp) cs_cow_7 dX4_part_81 ?_
      refine v_g (g' := (mu g (0) (7) (y))) rfl ?_
      refine v_iload_n C 3 dX4_part_84 rfl ?_
      exact v_ret_i C rfl dX4_part_85 ⟨(by have hq := hI28.2.2.2 (by omega); rw [if_neg (by omega), hq.1, show (t - 1).toNat = (pw (F 0) - 1).toNat by omega]), (by have hq := hI28.2.2.2 (by omega); rw [if_neg (by omega), hq.2, hq.1, show (t - 1).toNat = (pw (F 0) - 1).toNat by omega])⟩
    · skip
      have b00 := VB_bd HI t 0 (q := 0) (by omega)
      have b11 := VB_bd HI t 1 (q := 1) (by omega)
      have hlb := ls_bd HI t
      have hab := ab_r (lsB F) (t - 1).toNat
      have hlx := ls_bd HI x
      refine v_aload_n C 4 dX4_part_34 rfl ?_
      refine v_getf C (by omega) (by omega) ct_cow rfl 2 (by decide) wf21 hinX4 rfl dX4_part_35 ?_
      refine v_st (st' := [.ref (a (26 + 0))]) rfl ?_
      refine v_iload_n C 1 dX4_part_38 rfl ?_
      refine v_iload C 0 dX4_part_39 rfl ?_
      refine v_ixor (z := (iI (pw (F 0) - 1 - t))) C dX4_part_41 (xor_all (by omega) (by omega) (by omega)) ?_
      refine v_iconst C dX4_part_42 ?_
      refine v_cV_i C (As := [.int (iI (pw (F 0) - 1 - t)), .int (iI (0))]) (rest := []) (c_X1_valueOfSet l D yc t1 t2 a A g 0 (pw (F 0) - 1 - t) 0 F (by omega) HF HI (by omega) (by omega)) (cwV 2 C.hts gX4_part_X1_valueOfSet rfl rfl rfl (by decide +kernel) ⟨by decide, by decide⟩) (fun H hP => va_recv C.hK hP (ci := 1) (q0 := (26 + 0 : Int).toNat) rfl (wo_is (by omega) (by omega) (ct_farm (by omega) (by omega)))) rfl rfl (Nat.le_of_ble_eq_true rfl) dX4_part_43 ?_
      intro r9 g9 h9
      rw [h9.1, h9.2]
      clear h9 g9 r9
      try dsimp only
      refine v_st (st' := [.int (iI (VB F t 0 0))]) (by rw [VB_rest (by omega) (by omega) (by omega)]) ?_
      refine v_aload_n C 4 dX4_part_46 rfl ?_
      refine v_getf C (by omega) (by omega) ct_cow rfl 2 (by decide) wf21 hinX4 rfl dX4_part_47 ?_
      refine v_st (st' := [.ref (a (26 + 0)), .int (iI (VB F t 0 0))]) rfl ?_
      refine v_iload C 0 dX4_part_50 rfl ?_
      refine v_iconst C dX4_part_52 ?_
      refine v_cV_i C (As := [.int (iI (t)), .int (iI (1))]) (rest := [.int (iI (VB F t 0 0))]) (c_X1_valueOfSet l D yc t1 t2 a A g 0 t 1 F (by omega) HF HI (by omega) (by omega)) (cwV 2 C.hts gX4_part_X1_valueOfSet rfl rfl rfl (by decide +kernel) ⟨by decide, by decide⟩) (fun H hP => va_recv C.hK hP (ci := 1) (q0 := (26 + 0 : Int).toNat) rfl (wo_is (by omega) (by omega) (ct_farm (by omega) (by omega)))) rfl rfl (Nat.le_of_ble_eq_true rfl) dX4_part_53 ?_
      intro r9 g9 h9
      rw [h9.1, h9.2]
      clear h9 g9 r9
      try dsimp only
      refine v_mmin C wm235 wnmin wmi womin (by decide) (Nat.le_of_ble_eq_true rfl) (by omega) (by omega) dX4_part_56 ?_
      refine v_st (st' := [.int (iI (ls F t))]) (by rw [show (if VB F t 1 1 < VB F t 0 0 then VB F t 1 1 else VB F t 0 0) = ls F t by unfold ls; (repeat' split) <;> omega]) ?_
      refine v_istore (lv' := [(5, .int (iI (ls F t))), (4, .int (iI (t))), (3, .int (iI (pw (F 0) - 1))), (2, .int (iI (y))), (1, .int (iI (x))), (0, .ref (a (0)))]) C dX4_part_59 (by decide) rfl ?_
      refine v_iload C 0 dX4_part_61 rfl ?_
      refine v_iload_n C 3 dX4_part_63 rfl ?_
      refine v_icmp_le (tgt := 73) C dX4_part_64 (by decide) (by omega) (by omega) (fun c64 => ?_) (fun c64 => ?_)
      · skip
        refine v_iinc (z' := t + 1) (lv' := [(4, .int (iI (t + 1))), (5, .int (iI (ls F t))), (3, .int (iI (pw (F 0) - 1))), (2, .int (iI (y))), (1, .int (iI (x))), (0, .ref (a (0)))]) C 1 dX4_part_73 rfl (by omega) (by decide) rfl ?_
        refine v_goto (tgt := 28) C dX4_part_76 (by decide) ?_
        refine v_sub (lv' := [(4, .int (iI (t + 1))), (3, .int (iI (pw (F 0) - 1))), (2, .int (iI (y))), (1, .int (iI (x))), (0, .ref (a (0)))]) [0, 2, 3, 4, 5] rfl ?_
        exact ih28 x y (t + 1) ⟨by omega, by omega, fun h => by omega, fun _ => by
        rw [show t + 1 - 1 = t by omega]
        by_cases h0 : t = 0
        · first | (exfalso; omega) | (subst h0; exact ⟨rfl, rfl⟩)
        · have hq := hI28.2.2.2 (by omega)
          rw [ab_s (t := t) (by omega), ← hq.1]
          first | (rw [if_pos (by exact decide_eq_true (by omega))]; exact ⟨rfl, rfl⟩) | (rw [if_neg (by exact fun h => absurd (of_decide_eq_true h) (by omega))]; exact ⟨rfl, hq.2⟩)⟩ (by omega)
      · skip
        refine v_iload C 0 dX4_part_67 rfl ?_
        refine v_istore_n (lv' := [(2, .int (iI (ls F t))), (5, .int (iI (ls F t))), (4, .int (iI (t))), (3, .int (iI (pw (F 0) - 1))), (1, .int (iI (x))), (0, .ref (a (0)))]) C dX4_part_69 (by decide) rfl ?_
        refine v_iload C 2 dX4_part_70 rfl ?_
        refine v_istore_n (lv' := [(1, .int (iI (t))), (2, .int (iI (ls F t))), (5, .int (iI (ls F t))), (4, .int (iI (t))), (3, .int (iI (pw (F 0) - 1))), (0, .ref (a (0)))]) C dX4_part_72 (by decide) rfl ?_
        refine v_iinc (z' := t + 1) (lv' := [(4, .int (iI (t + 1))), (1, .int (iI (t))), (2, .int (iI (ls F t))), (5, .int (iI (ls F t))), (3, .int (iI (pw (F 0) - 1))), (0, .ref (a (0)))]) C 3 dX4_part_73 rfl (by omega) (by decide) rfl ?_
        refine v_goto (tgt := 28) C dX4_part_76 (by decide) ?_
        refine v_sub (lv' := [(4, .int (iI (t + 1))), (3, .int (iI (pw (F 0) - 1))), (2, .int (iI (ls F t))), (1, .int (iI (t))), (0, .ref (a (0)))]) [0, 4, 2, 1, 5] rfl ?_
        exact ih28 t (ls F t) (t + 1) ⟨by omega, by omega, fun h => by omega, fun _ => by
        rw [show t + 1 - 1 = t by omega]
        by_cases h0 : t = 0
        · first | (exfalso; omega) | (subst h0; exact ⟨rfl, rfl⟩)
        · have hq := hI28.2.2.2 (by omega)
          rw [ab_s (t := t) (by omega), ← hq.1]
          first | (rw [if_pos (by exact decide_eq_true (by omega))]; exact ⟨rfl, rfl⟩) | (rw [if_neg (by exact fun h => absurd (of_decide_eq_true h) (by omega))]; exact ⟨rfl, hq.2⟩)⟩ (by omega)
  · skip
    refine v_bipush C dX4_part_10 (by decide) ?_
    exact v_ret_i C rfl dX4_part_12 ⟨(by repeat (first | rfl | rw [if_pos (by omega)] | rw [if_neg (by omega)])), (by repeat (first | rfl | rw [if_pos (by omega)] | rw [if_neg (by omega)]))⟩
