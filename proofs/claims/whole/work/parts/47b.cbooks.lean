set_option maxRecDepth 100000 in
set_option maxHeartbeats 4000000 in
theorem c_X4_findingOfBook (l : Launch) (D : va_G) (yc : Nat → ClassId) (t1 t2 : Nat) (a : Int → Nat) (A : Nat → Prop) (g : Mm) (r : Int) (hr : 0 ≤ r ∧ r < 6) (HC : CI g) : Ci l yX4_findingOfBook wsX4_findingOfBook { frames := 2, cells := 0, slots := 0, locals := 42 } D yc t1 t2 A (cw a yc) [.ref (a (6 + r))] g (fun r9 g' => r9 = (iI (cwr g r)) ∧ g' = g) := by
  refine start_i (cc := cX4_findingOfBook) (nL := 2) (ret := (some .int)) (own := RX4) (by decide +kernel) rfl rfl (Nat.le_of_ble_eq_true rfl) ?_
  intro p e s m9 below meth c9 C
  have wf78 : Cond.fieldLink RX4 78 (TX3 1).1 (TX3 1).2.1 (TX3 1).2.2.1 ∈ wsX4_findingOfBook := by decide +kernel
  have hinX3 : ∀ w ∈ u_ws RX3 TX3 2, w ∈ wsX4_findingOfBook := by decide +kernel
  have wf63 : Cond.fieldLink RX4 63 (TX3 0).1 (TX3 0).2.1 (TX3 0).2.2.1 ∈ wsX4_findingOfBook := by decide +kernel
  have hs := HC.sz (r := r) (by omega) (by omega)
  have hl := rl40 (r := r) (by omega)
  refine v_lv (lv' := [(0, .ref (a (6 + r)))]) rfl ?_
  refine v_aload_n C 0 dX4_findingOfBook_0 rfl ?_
  refine v_cV_i C (As := []) (rest := []) (c_X3_isMissing l D yc t1 t2 a A g r (by omega) (by omega)) (cwV 0 C.hts gX4_findingOfBook_X3_isMissing rfl rfl rfl (by decide +kernel) ⟨by decide, by decide⟩) (fun H hP => va_recv C.hK hP (ci := 3) (q0 := (6 + r : Int).toNat) rfl (wo_is (by omega) (by omega) (ct_row (by omega) (by omega)))) rfl rfl (Nat.le_of_ble_eq_true rfl) dX4_findingOfBook_1 ?_
  intro r9 g9 h9
  rw [h9.1, h9.2]
  clear h9 g9 r9
  try dsimp only
  refine v_ifb_eq (tgt := 9) C dX4_findingOfBook_4 (by decide) (fun c4 => ?_) (fun c4 => ?_)
  · skip
    refine v_aload_n C 0 dX4_findingOfBook_9 rfl ?_
    refine v_getf C (by omega) (by omega) (ct_row (by omega) (by omega)) rfl 1 (by decide) wf78 hinX3 rfl dX4_findingOfBook_10 ?_
    refine v_iconst C dX4_findingOfBook_13 ?_
    refine v_irem C dX4_findingOfBook_14 (by omega) (by omega) (by omega) (by omega) ?_
    refine v_if_eq (tgt := 20) C dX4_findingOfBook_15 (by decide) (by omega) (fun c15 => ?_) (fun c15 => ?_)
    · skip
      refine v_iconst C dX4_findingOfBook_20 ?_
      refine v_istore_n (lv' := [(1, .int (iI (0))), (0, .ref (a (6 + r)))]) C dX4_findingOfBook_21 (by decide) rfl ?_
      refine v_lv (congrArg (fun x9 => ([(1, .int (iI x9)), (0, .ref (a (6 + r)))] : List (Nat × Value))) (show (0) = (2 * ((0 : Int))) by first | rfl | omega | (simp; done))) ?_
      refine v_loop1 (fun (t : Int) => (g (6 + r) 1 - t).toNat) (fun (t : Int) => 0 ≤ t ∧ 2 * t ≤ g (6 + r) 1 ∧ sI (cbW g r) t = 0) (fun (t : Int) => [(1, .int (iI (2 * t))), (0, .ref (a (6 + r)))]) (fun (t : Int) => g) ?_ 0 ⟨by omega, by omega, rfl⟩
      intro t hI22 ih22
      try dsimp only at ih22 ⊢
      refine v_iload_n C 0 dX4_findingOfBook_22 rfl ?_
      refine v_iconst C dX4_findingOfBook_23 ?_
      refine v_iadd C dX4_findingOfBook_24 ?_
      refine v_aload_n C 1 dX4_findingOfBook_25 rfl ?_
      refine v_getf C (by omega) (by omega) (ct_row (by omega) (by omega)) rfl 1 (by decide) wf78 hinX3 rfl dX4_findingOfBook_26 ?_
      refine v_icmp_ge (tgt := 66) C dX4_findingOfBook_29 (by decide) (by omega) (by omega) (fun c29 => ?_) (fun c29 => ?_)
      · skip
        refine v_iconst C dX4_findingOfBook_66 ?_
        exact v_ret_i C rfl dX4_findingOfBook_67 ⟨(by unfold cwr; rw [if_neg (show ¬ (g (6 + r) 1 < 0) by omega), if_neg (show ¬ (g (6 + r) 1 % 2 = 1) by omega), show g (6 + r) 1 / 2 = t by omega, if_pos hI22.2.2]), rfl⟩
      · skip
        have hd := HC.it (r := r) (by omega) (by omega) (2 * t)
        have he := HC.it (r := r) (by omega) (by omega) (2 * t + 1)
        refine v_aload_n C 1 dX4_findingOfBook_32 rfl ?_
        refine v_getf C (by omega) (by omega) (ct_row (by omega) (by omega)) rfl 0 (by decide) wf63 hinX3 rfl dX4_findingOfBook_33 ?_
        refine v_iload_n C 0 dX4_findingOfBook_36 rfl ?_
        refine v_iaload C (by omega) (by omega) (ct_places (by omega) (by omega)) (by omega) (by omega) (by unfold rlen; split <;> decide) dX4_findingOfBook_37 ?_
        refine v_cS_i C (As := [.int (iI (g (16 + r) (2 * t)))]) (rest := []) (c_X4_isNoDay l D yc t1 t2 A (cw a yc) g (g (16 + r) (2 * t)) (by omega)) (va_cwS 1 C.hts gX4_findingOfBook_X4_isNoDay rfl rfl rfl (by decide +kernel) ⟨by decide, by decide⟩) rfl rfl (Nat.le_of_ble_eq_true rfl) dX4_findingOfBook_38 ?_
        intro r9 g9 h9
        rw [h9.1, h9.2]
        clear h9 g9 r9
        try dsimp only
        refine v_ifb_ne (tgt := 58) C dX4_findingOfBook_41 (by decide) (fun c41 => ?_) (fun c41 => ?_)
        · skip
          refine v_iconst C dX4_findingOfBook_58 ?_
          exact v_ret_i C rfl dX4_findingOfBook_59 ⟨(by unfold cwr; rw [if_neg (show ¬ (g (6 + r) 1 < 0) by omega), if_neg (show ¬ (g (6 + r) 1 % 2 = 1) by omega), if_neg (sI_pos (t := t) (by omega) (by omega) (fun e _ _ => (cbW_01 g r e).1) (by unfold cbW cbD cbF; rw [if_neg (by omega)]; decide))]), rfl⟩
        · skip
          refine v_aload_n C 1 dX4_findingOfBook_44 rfl ?_
          refine v_getf C (by omega) (by omega) (ct_row (by omega) (by omega)) rfl 0 (by decide) wf63 hinX3 rfl dX4_findingOfBook_45 ?_
          refine v_iload_n C 0 dX4_findingOfBook_48 rfl ?_
          refine v_iconst C dX4_findingOfBook_49 ?_
          refine v_iadd C dX4_findingOfBook_50 ?_
          refine v_iaload C (by omega) (by omega) (ct_places (by omega) (by omega)) (by omega) (by omega) (by unfold rlen; split <;> decide) dX4_findingOfBook_51 ?_
          refine v_cS_i C (As := [.int (iI (g (16 + r) ((2 * t) + 1)))]) (rest := []) (c_X4_isNoFarm l D yc t1 t2 A (cw a yc) g (g (16 + r) ((2 * t) + 1)) (by omega)) (va_cwS 1 C.hts gX4_findingOfBook_X4_isNoFarm rfl rfl rfl (by decide +kernel) ⟨by decide, by decide⟩) rfl rfl (Nat.le_of_ble_eq_true rfl) dX4_findingOfBook_52 ?_
          intro r9 g9 h9
          rw [h9.1, h9.2]
          clear h9 g9 r9
          try dsimp only
          refine v_ifb_eq (tgt := 60) C dX4_findingOfBook_55 (by decide) (fun c55 => ?_) (fun c55 => ?_)
          · skip
            refine v_iinc (z' := 2 * t + 2) (lv' := [(1, .int (iI (2 * t + 2))), (0, .ref (a (6 + r)))]) C 0 dX4_findingOfBook_60 rfl (by omega) (by decide) rfl ?_
            refine v_goto (tgt := 22) C dX4_findingOfBook_63 (by decide) ?_
            refine v_lv (congrArg (fun x9 => ([(1, .int (iI x9)), (0, .ref (a (6 + r)))] : List (Nat × Value))) (show (2 * t + 2) = (2 * (t + 1)) by first | rfl | (omega))) ?_
            exact ih22 (t + 1) ⟨by omega, by omega, by rw [sI_s _ (by omega), hI22.2.2]; unfold cbW cbD cbF; rw [if_pos (by omega)]; rfl⟩ (by omega)
          · skip
            refine v_iconst C dX4_findingOfBook_58 ?_
            exact v_ret_i C rfl dX4_findingOfBook_59 ⟨(by unfold cwr; rw [if_neg (show ¬ (g (6 + r) 1 < 0) by omega), if_neg (show ¬ (g (6 + r) 1 % 2 = 1) by omega), if_neg (sI_pos (t := t) (by omega) (by omega) (fun e _ _ => (cbW_01 g r e).1) (by unfold cbW cbD cbF; rw [if_neg (by omega)]; decide))]), rfl⟩
    · skip
      refine v_iconst C dX4_findingOfBook_18 ?_
      exact v_ret_i C rfl dX4_findingOfBook_19 ⟨(by unfold cwr; rw [if_neg (show ¬ (g (6 + r) 1 < 0) by omega), if_pos (show g (6 + r) 1 % 2 = 1 by omega)]), rfl⟩
  · skip
    refine v_iconst C dX4_findingOfBook_7 ?_
    exact v_ret_i C rfl dX4_findingOfBook_8 ⟨(by unfold cwr; rw [if_pos (show g (6 + r) 1 < 0 by omega)]), rfl⟩

set_option maxRecDepth 100000 in
set_option maxHeartbeats 4000000 in
theorem c_X4_turnsInBook (l : Launch) (D : va_G) (yc : Nat → ClassId) (t1 t2 : Nat) (a : Int → Nat) (A : Nat → Prop) (g : Mm) (r n q : Int) (hr : 0 ≤ r ∧ r < 6) (HC : CI g) (hn : 1 ≤ n ∧ n ≤ 8) (hq : 0 ≤ q ∧ q ≤ 1) (HW : cwr g r = 0) : Ci l yX4_turnsInBook wsX4_turnsInBook { frames := 0, cells := 0, slots := 0, locals := 0 } D yc t1 t2 A (cw a yc) [.ref (a (6 + r)), .int (iI (n)), .int (iI (q))] g (fun r9 g' => r9 = (iI (tb (cbD g r) (cbF g r) n q (g (6 + r) 1 / 2).toNat)) ∧ g' = g) := by
  refine start_i (cc := cX4_turnsInBook) (nL := 5) (ret := (some .int)) (own := RX4) (by decide +kernel) rfl rfl (Nat.le_of_ble_eq_true rfl) ?_
  intro p e s m9 below meth c9 C
  have wf78 : Cond.fieldLink RX4 78 (TX3 1).1 (TX3 1).2.1 (TX3 1).2.2.1 ∈ wsX4_turnsInBook := by decide +kernel
  have hinX3 : ∀ w ∈ u_ws RX3 TX3 2, w ∈ wsX4_turnsInBook := by decide +kernel
  have wf63 : Cond.fieldLink RX4 63 (TX3 0).1 (TX3 0).2.1 (TX3 0).2.2.1 ∈ wsX4_turnsInBook := by decide +kernel
  have hs := HC.sz (r := r) (by omega) (by omega)
  have hl := rl40 (r := r) (by omega)
  have hz := cwr_z HW
  refine v_lv (lv' := [(0, .ref (a (6 + r))), (1, .int (iI (n))), (2, .int (iI (q)))]) rfl ?_
  refine v_iconst C dX4_turnsInBook_0 ?_
  refine v_istore_n (lv' := [(3, .int (iI (0))), (0, .ref (a (6 + r))), (1, .int (iI (n))), (2, .int (iI (q)))]) C dX4_turnsInBook_1 (by decide) rfl ?_
  refine v_iconst C dX4_turnsInBook_2 ?_
  refine v_istore (lv' := [(4, .int (iI (0))), (3, .int (iI (0))), (0, .ref (a (6 + r))), (1, .int (iI (n))), (2, .int (iI (q)))]) C dX4_turnsInBook_3 (by decide) rfl ?_
  refine v_lv (congrArg (fun x9 => ([(4, .int (iI x9)), (3, .int (iI (0))), (0, .ref (a (6 + r))), (1, .int (iI (n))), (2, .int (iI (q)))] : List (Nat × Value))) (show (0) = (2 * ((0 : Int))) by first | rfl | omega | (simp; done))) ?_
  refine v_lv (congrArg (fun x9 => ([(4, .int (iI (2 * ((0 : Int))))), (3, .int (iI x9)), (0, .ref (a (6 + r))), (1, .int (iI (n))), (2, .int (iI (q)))] : List (Nat × Value))) (show (0) = (tb (cbD g r) (cbF g r) n q ((0 : Int)).toNat) by first | rfl | omega | (simp; done))) ?_
  refine v_loop1 (fun (t : Int) => (g (6 + r) 1 - t).toNat) (fun (t : Int) => 0 ≤ t ∧ 2 * t ≤ g (6 + r) 1) (fun (t : Int) => [(4, .int (iI (2 * t))), (3, .int (iI (tb (cbD g r) (cbF g r) n q t.toNat))), (0, .ref (a (6 + r))), (1, .int (iI (n))), (2, .int (iI (q)))]) (fun (t : Int) => g) ?_ 0 (by omega)
  intro t hI5 ih5
  try dsimp only at ih5 ⊢
  refine v_iload_n C 3 dX4_turnsInBook_5 rfl ?_
  refine v_if_le (tgt := 53) C dX4_turnsInBook_6 (by decide) (by omega) (fun c6 => ?_) (fun c6 => ?_)
  · exact absurd c6 (by omega)
  · skip
    refine v_iload C 0 dX4_turnsInBook_9 rfl ?_
    refine v_iconst C dX4_turnsInBook_11 ?_
    refine v_iadd C dX4_turnsInBook_12 ?_
    refine v_aload_n C 2 dX4_turnsInBook_13 rfl ?_
    refine v_getf C (by omega) (by omega) (ct_row (by omega) (by omega)) rfl 1 (by decide) wf78 hinX3 rfl dX4_turnsInBook_14 ?_
    refine v_icmp_ge (tgt := 53) C dX4_turnsInBook_17 (by decide) (by omega) (by omega) (fun c17 => ?_) (fun c17 => ?_)
    · skip
      refine v_iload_n C 1 dX4_turnsInBook_53 rfl ?_
      exact v_ret_i C rfl dX4_turnsInBook_54 ⟨(by rw [show (g (6 + r) 1 / 2).toNat = t.toNat by omega]), rfl⟩
    · skip
      have hd := cb_ok HW (k := t) (by omega) (by omega)
      unfold cbD cbF at hd
      have hm := emd (d := g (16 + r) (2 * t)) (n := n) (by omega)
      have hb := tb_bd (cbD g r) (cbF g r) (n := n) (q := q) (by omega) t.toNat
      have hpp := pw_pos (g (16 + r) (2 * t) % n)
      refine v_aload_n C 2 dX4_turnsInBook_20 rfl ?_
      refine v_getf C (by omega) (by omega) (ct_row (by omega) (by omega)) rfl 0 (by decide) wf63 hinX3 rfl dX4_turnsInBook_21 ?_
      refine v_iload C 0 dX4_turnsInBook_24 rfl ?_
      refine v_iconst C dX4_turnsInBook_26 ?_
      refine v_iadd C dX4_turnsInBook_27 ?_
      refine v_iaload C (by omega) (by omega) (ct_places (by omega) (by omega)) (by omega) (by omega) (by unfold rlen; split <;> decide) dX4_turnsInBook_28 ?_
      refine v_iload_n C 4 dX4_turnsInBook_29 rfl ?_
      refine v_icmp_ne (tgt := 47) C dX4_turnsInBook_30 (by decide) (by omega) (by omega) (fun c30 => ?_) (fun c30 => ?_)
      · skip
        refine v_iinc (z' := 2 * t + 2) (lv' := [(4, .int (iI (2 * t + 2))), (3, .int (iI (tb (cbD g r) (cbF g r) n q t.toNat))), (0, .ref (a (6 + r))), (1, .int (iI (n))), (2, .int (iI (q)))]) C 0 dX4_turnsInBook_47 rfl (by omega) (by decide) rfl ?_
        refine v_goto (tgt := 5) C dX4_turnsInBook_50 (by decide) ?_
        refine v_lv (congrArg (fun x9 => ([(4, .int (iI x9)), (3, .int (iI (tb (cbD g r) (cbF g r) n q t.toNat))), (0, .ref (a (6 + r))), (1, .int (iI (n))), (2, .int (iI (q)))] : List (Nat × Value))) (show (2 * t + 2) = (2 * (t + 1)) by first | rfl | (omega))) ?_
        refine v_lv (congrArg (fun x9 => ([(4, .int (iI (2 * (t + 1)))), (3, .int (iI x9)), (0, .ref (a (6 + r))), (1, .int (iI (n))), (2, .int (iI (q)))] : List (Nat × Value))) (show (tb (cbD g r) (cbF g r) n q t.toNat) = (tb (cbD g r) (cbF g r) n q (t + 1).toNat) by first | rfl | (rw [tb_s _ _ _ _ (by omega)]; unfold cbF cbD; first | rw [if_pos (by omega)] | rw [if_neg (by omega)]))) ?_
        exact ih5 (t + 1) (by omega) (by omega)
      · skip
        refine v_iload_n C 1 dX4_turnsInBook_33 rfl ?_
        refine v_iconst C dX4_turnsInBook_34 ?_
        refine v_aload_n C 2 dX4_turnsInBook_35 rfl ?_
        refine v_getf C (by omega) (by omega) (ct_row (by omega) (by omega)) rfl 0 (by decide) wf63 hinX3 rfl dX4_turnsInBook_36 ?_
        refine v_iload C 0 dX4_turnsInBook_39 rfl ?_
        refine v_iaload C (by omega) (by omega) (ct_places (by omega) (by omega)) (by omega) (by omega) (by unfold rlen; split <;> decide) dX4_turnsInBook_41 ?_
        refine v_iload_n C 3 dX4_turnsInBook_42 rfl ?_
        refine v_irem C dX4_turnsInBook_43 (by omega) (by omega) (by omega) (by omega) ?_
        refine v_ishl (z := (iI (pw (g (16 + r) (2 * t) % n)))) C dX4_turnsInBook_44 (shl_1 (by omega) (by omega)) ?_
        refine v_ior (z := (iI (or2 (tb (cbD g r) (cbF g r) n q t.toNat) (pw (g (16 + r) (2 * t) % n))))) C dX4_turnsInBook_45 (or2_g (by omega) (by omega)) ?_
        refine v_istore_n (lv' := [(3, .int (iI (or2 (tb (cbD g r) (cbF g r) n q t.toNat) (pw (g (16 + r) (2 * t) % n))))), (4, .int (iI (2 * t))), (0, .ref (a (6 + r))), (1, .int (iI (n))), (2, .int (iI (q)))]) C dX4_turnsInBook_46 (by decide) rfl ?_
        refine v_iinc (z' := 2 * t + 2) (lv' := [(4, .int (iI (2 * t + 2))), (3, .int (iI (or2 (tb (cbD g r) (cbF g r) n q t.toNat) (pw (g (16 + r) (2 * t) % n))))), (0, .ref (a (6 + r))), (1, .int (iI (n))), (2, .int (iI (q)))]) C 1 dX4_turnsInBook_47 rfl (by omega) (by decide) rfl ?_
        refine v_goto (tgt := 5) C dX4_turnsInBook_50 (by decide) ?_
        refine v_lv (congrArg (fun x9 => ([(4, .int (iI x9)), (3, .int (iI (or2 (tb (cbD g r) (cbF g r) n q t.toNat) (pw (g (16 + r) (2 * t) % n))))), (0, .ref (a (6 + r))), (1, .int (iI (n))), (2, .int (iI (q)))] : List (Nat × Value))) (show (2 * t + 2) = (2 * (t + 1)) by first | rfl | (omega))) ?_
        refine v_lv (congrArg (fun x9 => ([(4, .int (iI (2 * (t + 1)))), (3, .int (iI x9)), (0, .ref (a (6 + r))), (1, .int (iI (n))), (2, .int (iI (q)))] : List (Nat × Value))) (show (or2 (tb (cbD g r) (cbF g r) n q t.toNat) (pw (g (16 + r) (2 * t) % n))) = (tb (cbD g r) (cbF g r) n q (t + 1).toNat) by first | rfl | (rw [tb_s _ _ _ _ (by omega)]; unfold cbF cbD; first | rw [if_pos (by omega)] | rw [if_neg (by omega)]))) ?_
        exact ih5 (t + 1) (by omega) (by omega)

set_option maxRecDepth 100000 in
set_option maxHeartbeats 4000000 in
theorem c_X4_fits (l : Launch) (D : va_G) (yc : Nat → ClassId) (t1 t2 : Nat) (a : Int → Nat) (A : Nat → Prop) (g : Mm) (r n : Int) (hr : R32 r) (hn : R32 n) (HC : CI g) : Ci l yX4_fits wsX4_fits { frames := 3, cells := 0, slots := 0, locals := 63 } D yc t1 t2 A (cw a yc) [.ref (a (0)), .int (iI (r)), .int (iI (n))] g (fun r9 g' => r9 = (iI (if (r < 0 ∨ 5 < r) ∨ (n < 1 ∨ 8 < n) then -1 else if ¬ cwr g r = 0 then -3 else 1)) ∧ g' = (if (r < 0 ∨ 5 < r) ∨ (n < 1 ∨ 8 < n) then g else if ¬ cwr g r = 0 then fnC g (cwr g r) else if ¬ ad (tb (cbD g r) (cbF g r) n 0 (g (6 + r) 1 / 2).toNat) (tb (cbD g r) (cbF g r) n 1 (g (6 + r) 1 / 2).toNat) = 0 then mu (mu (mu g 0 7 (-9)) 0 8 ((0) / (Int.gcd (0) (1) : Int))) 0 9 ((1) / (Int.gcd (0) (1) : Int)) else mu (mu (mu g 0 7 (tb (cbD g r) (cbF g r) n 1 (g (6 + r) 1 / 2).toNat)) 0 8 ((pw (n - sI (bt (or2 (tb (cbD g r) (cbF g r) n 0 (g (6 + r) 1 / 2).toNat) (tb (cbD g r) (cbF g r) n 1 (g (6 + r) 1 / 2).toNat))) 24)) / (Int.gcd (pw (n - sI (bt (or2 (tb (cbD g r) (cbF g r) n 0 (g (6 + r) 1 / 2).toNat) (tb (cbD g r) (cbF g r) n 1 (g (6 + r) 1 / 2).toNat))) 24)) (1) : Int))) 0 9 ((1) / (Int.gcd (pw (n - sI (bt (or2 (tb (cbD g r) (cbF g r) n 0 (g (6 + r) 1 / 2).toNat) (tb (cbD g r) (cbF g r) n 1 (g (6 + r) 1 / 2).toNat))) 24)) (1) : Int)))) := by
  refine start_i (cc := cX4_fits) (nL := 6) (ret := (some .int)) (own := RX4) (by decide +kernel) rfl rfl (Nat.le_of_ble_eq_true rfl) ?_
  intro p e s m9 below meth c9 C
  have wf11 : Cond.fieldLink RX4 11 (TX4 0).1 (TX4 0).2.1 (TX4 0).2.2.1 ∈ wsX4_fits := by decide +kernel
  have hinX4 : ∀ w ∈ u_ws RX4 TX4 10, w ∈ wsX4_fits := by decide +kernel
  have wf74 : Cond.fieldLink RX4 74 (TX4 7).1 (TX4 7).2.1 (TX4 7).2.2.1 ∈ wsX4_fits := by decide +kernel
  have hw5 := cwr_bd g r
  refine v_lv (lv' := [(0, .ref (a (0))), (1, .int (iI (r))), (2, .int (iI (n)))]) rfl ?_
  refine v_iload_n C 1 dX4_fits_0 rfl ?_
  refine v_bipush C dX4_fits_1 (by decide) ?_
  refine v_cS_i C (As := [.int (iI (r)), .int (iI (6))]) (rest := []) (c_X4_isNone l D yc t1 t2 A (cw a yc) g r 6 (by omega) (by omega)) (va_cwS 2 C.hts gX4_fits_X4_isNone rfl rfl rfl (by decide +kernel) ⟨by decide, by decide⟩) rfl rfl (Nat.le_of_ble_eq_true rfl) dX4_fits_3 ?_
  intro r9 g9 h9
  rw [h9.1, h9.2]
  clear h9 g9 r9
  try dsimp only
  refine v_ifb_ne (tgt := 19) C dX4_fits_6 (by decide) (fun c6 => ?_) (fun c6 => ?_)
  · skip
    refine v_iconst C dX4_fits_19 ?_
    exact v_ret_i C rfl dX4_fits_20 ⟨(by repeat (first | rfl | rw [if_pos (by omega)] | rw [if_neg (by omega)])), (by repeat (first | rfl | rw [if_pos (by omega)] | rw [if_neg (by omega)]))⟩
  · skip
    refine v_iload_n C 2 dX4_fits_9 rfl ?_
    refine v_iconst C dX4_fits_10 ?_
    refine v_bipush C dX4_fits_11 (by decide) ?_
    refine v_cS_i C (As := [.int (iI (n)), .int (iI (1)), .int (iI (8))]) (rest := []) (c_X4_outside l D yc t1 t2 A (cw a yc) g n 1 8 (by omega) (by omega) (by omega)) (va_cwS 3 C.hts gX4_fits_X4_outside rfl rfl rfl (by decide +kernel) ⟨by decide, by decide⟩) rfl rfl (Nat.le_of_ble_eq_true rfl) dX4_fits_13 ?_
    intro r9 g9 h9
    rw [h9.1, h9.2]
    clear h9 g9 r9
    try dsimp only
    refine v_ifb_eq (tgt := 21) C dX4_fits_16 (by decide) (fun c16 => ?_) (fun c16 => ?_)
    · skip
      refine v_aload_n C 0 dX4_fits_21 rfl ?_
      refine v_getf C (by omega) (by omega) ct_cow rfl 0 (by decide) wf11 hinX4 rfl dX4_fits_22 ?_
      refine v_iload_n C 1 dX4_fits_25 rfl ?_
      refine v_aaload (f := fun j => 6 + j) C (by omega) (by omega) 4 rfl ct_rowsA (by omega) (by omega) (by decide) dX4_fits_26 ?_
      refine v_cS_i C (As := [.ref (a (6 + r))]) (rest := []) (c_X4_findingOfBook l D yc t1 t2 a A g r (by omega) HC) (va_cwS 1 C.hts gX4_fits_X4_findingOfBook rfl rfl rfl (by decide +kernel) ⟨by decide, by decide⟩) rfl rfl (Nat.le_of_ble_eq_true rfl) dX4_fits_27 ?_
      intro r9 g9 h9
      rw [h9.1, h9.2]
      clear h9 g9 r9
      try dsimp only
      refine v_istore_n (lv' := [(3, .int (iI (cwr g r))), (0, .ref (a (0))), (1, .int (iI (r))), (2, .int (iI (n)))]) C dX4_fits_30 (by decide) rfl ?_
      refine v_iload_n C 0 dX4_fits_31 rfl ?_
      refine v_if_eq (tgt := 41) C dX4_fits_32 (by decide) (by omega) (fun c32 => ?_) (fun c32 => ?_)
      · skip
        have h8 := pw_8 (n := n) (by omega) (by omega)
        have zb := tb_bd (cbD g r) (cbF g r) (n := n) (q := 0) (by omega) (g (6 + r) 1 / 2).toNat
        have ob := tb_bd (cbD g r) (cbF g r) (n := n) (q := 1) (by omega) (g (6 + r) 1 / 2).toNat
        have rb := or2_bd (x := (tb (cbD g r) (cbF g r) n 0 (g (6 + r) 1 / 2).toNat)) (y := (tb (cbD g r) (cbF g r) n 1 (g (6 + r) 1 / 2).toNat)) (n := n) (by omega) (by omega) (by omega) (by omega) (by omega)
        have nb := ones_le (n := n) (x := or2 (tb (cbD g r) (cbF g r) n 0 (g (6 + r) 1 / 2).toNat) (tb (cbD g r) (cbF g r) n 1 (g (6 + r) 1 / 2).toNat)) (by omega) (by omega) (by omega) (by omega)
        have n0 := ones_bd (or2 (tb (cbD g r) (cbF g r) n 0 (g (6 + r) 1 / 2).toNat) (tb (cbD g r) (cbF g r) n 1 (g (6 + r) 1 / 2).toNat))
        have ab := ad_bd (x := (tb (cbD g r) (cbF g r) n 0 (g (6 + r) 1 / 2).toNat)) (y := (tb (cbD g r) (cbF g r) n 1 (g (6 + r) 1 / 2).toNat)) (by omega) (by omega)
        have hk8 := pw_8 (n := n - sI (bt (or2 (tb (cbD g r) (cbF g r) n 0 (g (6 + r) 1 / 2).toNat) (tb (cbD g r) (cbF g r) n 1 (g (6 + r) 1 / 2).toNat))) 24) (by omega) (by omega)
        refine v_aload_n C 1 dX4_fits_41 rfl ?_
        refine v_getf C (by omega) (by omega) ct_cow rfl 0 (by decide) wf11 hinX4 rfl dX4_fits_42 ?_
        refine v_iload_n C 2 dX4_fits_45 rfl ?_
        refine v_aaload (f := fun j => 6 + j) C (by omega) (by omega) 4 rfl ct_rowsA (by omega) (by omega) (by decide) dX4_fits_46 ?_
        refine v_iload_n C 3 dX4_fits_47 rfl ?_
        refine v_iconst C dX4_fits_48 ?_
        refine v_cS_i C (As := [.ref (a (6 + r)), .int (iI (n)), .int (iI (0))]) (rest := []) (c_X4_turnsInBook l D yc t1 t2 a A g r n 0 (by omega) HC (by omega) (by omega) c32) (va_cwS 3 C.hts gX4_fits_X4_turnsInBook rfl rfl rfl (by decide +kernel) ⟨by decide, by decide⟩) rfl rfl (Nat.le_of_ble_eq_true rfl) dX4_fits_49 ?_
        intro r9 g9 h9
        rw [h9.1, h9.2]
        clear h9 g9 r9
        try dsimp only
        refine v_istore (lv' := [(4, .int (iI (tb (cbD g r) (cbF g r) n 0 (g (6 + r) 1 / 2).toNat))), (3, .int (iI (cwr g r))), (0, .ref (a (0))), (1, .int (iI (r))), (2, .int (iI (n)))]) C dX4_fits_52 (by decide) rfl ?_
        refine v_aload_n C 2 dX4_fits_54 rfl ?_
        refine v_getf C (by omega) (by omega) ct_cow rfl 0 (by decide) wf11 hinX4 rfl dX4_fits_55 ?_
        refine v_iload_n C 3 dX4_fits_58 rfl ?_
        refine v_aaload (f := fun j => 6 + j) C (by omega) (by omega) 4 rfl ct_rowsA (by omega) (by omega) (by decide) dX4_fits_59 ?_
        refine v_iload_n C 4 dX4_fits_60 rfl ?_
        refine v_iconst C dX4_fits_61 ?_
        refine v_cS_i C (As := [.ref (a (6 + r)), .int (iI (n)), .int (iI (1))]) (rest := []) (c_X4_turnsInBook l D yc t1 t2 a A g r n 1 (by omega) HC (by omega) (by omega) c32) (va_cwS 3 C.hts gX4_fits_X4_turnsInBook rfl rfl rfl (by decide +kernel) ⟨by decide, by decide⟩) rfl rfl (Nat.le_of_ble_eq_true rfl) dX4_fits_62 ?_
        intro r9 g9 h9
        rw [h9.1, h9.2]
        clear h9 g9 r9
        try dsimp only
        refine v_istore (lv' := [(5, .int (iI (tb (cbD g r) (cbF g r) n 1 (g (6 + r) 1 / 2).toNat))), (4, .int (iI (tb (cbD g r) (cbF g r) n 0 (g (6 + r) 1 / 2).toNat))), (3, .int (iI (cwr g r))), (0, .ref (a (0))), (1, .int (iI (r))), (2, .int (iI (n)))]) C dX4_fits_65 (by decide) rfl ?_
        refine v_iload C 1 dX4_fits_67 rfl ?_
        refine v_iload C 0 dX4_fits_69 rfl ?_
        refine v_iand (z := (iI (ad (tb (cbD g r) (cbF g r) n 0 (g (6 + r) 1 / 2).toNat) (tb (cbD g r) (cbF g r) n 1 (g (6 + r) 1 / 2).toNat)))) C dX4_fits_71 (ad_e (by omega) (by omega)) ?_
        refine v_if_eq (tgt := 90) C dX4_fits_72 (by decide) (by omega) (fun c72 => ?_) (fun c72 => ?_)
        · skip
          refine v_aload_n C 3 dX4_fits_90 rfl ?_
          refine v_iload C 0 dX4_fits_91 rfl ?_
          refine v_puti C (cta_L a yc) (by omega) (by omega) ct_cow rfl 7 (by decide) wf74 hinX4 tyX4 tyX4_ok nmX4 rfl (by decide +kernel) (by simp) cs_cow_7 dX4_fits_93 ?_
          refine v_g (g' := (mu g (0) (7) (tb (cbD g r) (cbF g r) n 1 (g (6 + r) 1 / 2).toNat))) rfl ?_
          refine v_aload_n C 3 dX4_fits_96 rfl ?_
          refine v_lconst (z := 1) C dX4_fits_97 (by decide) ?_
          refine v_iload_n C 5 dX4_fits_98 rfl ?_
          refine v_iload C 1 dX4_fits_99 rfl ?_
          refine v_iload C 0 dX4_fits_101 rfl ?_
          refine v_ior (z := (iI (or2 (tb (cbD g r) (cbF g r) n 0 (g (6 + r) 1 / 2).toNat) (tb (cbD g r) (cbF g r) n 1 (g (6 + r) 1 / 2).toNat)))) C dX4_fits_103 (or2_g (by omega) (by omega)) ?_
          refine v_cS_i C (As := [.int (iI (or2 (tb (cbD g r) (cbF g r) n 0 (g (6 + r) 1 / 2).toNat) (tb (cbD g r) (cbF g r) n 1 (g (6 + r) 1 / 2).toNat)))]) (rest := [.int (iI (n)), .long (lI (1)), .ref (a (0))]) (c_J6_bitCount_0f7a4 l D yc t1 t2 A (cw a yc) (mu g (0) (7) (tb (cbD g r) (cbF g r) n 1 (g (6 + r) 1 / 2).toNat)) (or2 (tb (cbD g r) (cbF g r) n 0 (g (6 + r) 1 / 2).toNat) (tb (cbD g r) (cbF g r) n 1 (g (6 + r) 1 / 2).toNat)) (by omega)) (va_cwS 1 C.hts gX4_fits_J6_bitCount_0f7a4 rfl rfl rfl (by decide +kernel) ⟨by decide, by decide⟩) rfl rfl (Nat.le_of_ble_eq_true rfl) dX4_fits_104 ?_
          intro r9 g9 h9
          rw [h9.1, h9.2]
          clear h9 g9 r9
          try dsimp only
          refine v_isub C dX4_fits_107 ?_
          refine v_lshl (z := (lI (pw (n - sI (bt (or2 (tb (cbD g r) (cbF g r) n 0 (g (6 + r) 1 / 2).toNat) (tb (cbD g r) (cbF g r) n 1 (g (6 + r) 1 / 2).toNat))) 24)))) C dX4_fits_108 (lshl_1 (by omega) (by omega)) ?_
          refine v_lconst (z := 1) C dX4_fits_109 (by decide) ?_
          refine v_cV_v C (As := [.long (lI (pw (n - sI (bt (or2 (tb (cbD g r) (cbF g r) n 0 (g (6 + r) 1 / 2).toNat) (tb (cbD g r) (cbF g r) n 1 (g (6 + r) 1 / 2).toNat))) 24))), .long (lI (1))]) (rest := []) (c_X4_tellPart l D yc t1 t2 a A (mu g (0) (7) (tb (cbD g r) (cbF g r) n 1 (g (6 + r) 1 / 2).toNat)) (pw (n - sI (bt (or2 (tb (cbD g r) (cbF g r) n 0 (g (6 + r) 1 / 2).toNat) (tb (cbD g r) (cbF g r) n 1 (g (6 + r) 1 / 2).toNat))) 24)) 1 (by omega) (by omega)) (cwV 2 C.hts gX4_fits_X4_tellPart rfl rfl rfl (by decide +kernel) ⟨by decide, by decide⟩) (fun H hP => va_recv C.hK hP (ci := 4) (q0 := (0 : Int).toNat) rfl (wo_is (by omega) (by omega) ct_cow)) rfl rfl (Nat.le_of_ble_eq_true rfl) dX4_fits_110 ?_
          intro g9 h9
          rw [h9]
          clear h9 g9
          try dsimp only
          refine v_iconst C dX4_fits_113 ?_
          exact v_ret_i C rfl dX4_fits_114 ⟨(by repeat (first | rfl | rw [if_pos (by omega)] | rw [if_neg (by omega)])), (by repeat (first | rfl | rw [if_pos (by omega)] | rw [if_neg (by omega)]))⟩
        · skip
          refine v_aload_n C 3 dX4_fits_75 rfl ?_
          refine v_bipush C dX4_fits_76 (by decide) ?_
          refine v_puti C (cta_L a yc) (by omega) (by omega) ct_cow rfl 7 (by decide) wf74 hinX4 tyX4 tyX4_ok nmX4 rfl (by decide +kernel) (by simp) cs_cow_7 dX4_fits_78 ?_
          refine v_g (g' := (mu g (0) (7) (-9))) rfl ?_
          refine v_aload_n C 3 dX4_fits_81 rfl ?_
          refine v_lconst (z := 0) C dX4_fits_82 (by decide) ?_
          refine v_lconst (z := 1) C dX4_fits_83 (by decide) ?_
          refine v_cV_v C (As := [.long (lI (0)), .long (lI (1))]) (rest := []) (c_X4_tellPart l D yc t1 t2 a A (mu g (0) (7) (-9)) 0 1 (by omega) (by omega)) (cwV 2 C.hts gX4_fits_X4_tellPart rfl rfl rfl (by decide +kernel) ⟨by decide, by decide⟩) (fun H hP => va_recv C.hK hP (ci := 4) (q0 := (0 : Int).toNat) rfl (wo_is (by omega) (by omega) ct_cow)) rfl rfl (Nat.le_of_ble_eq_true rfl) dX4_fits_84 ?_
          intro g9 h9
          rw [h9]
          clear h9 g9
          try dsimp only
          refine v_goto (tgt := 113) C dX4_fits_87 (by decide) ?_
          refine v_iconst C dX4_fits_113 ?_
          exact v_ret_i C rfl dX4_fits_114 ⟨(by repeat (first | rfl | rw [if_pos (by omega)] | rw [if_neg (by omega)])), (by repeat (first | rfl | rw [if_pos (by omega)] | rw [if_neg (by omega)]))⟩
      · skip
        refine v_aload_n C 1 dX4_fits_35 rfl ?_
        refine v_iload_n C 0 dX4_fits_36 rfl ?_
        refine v_cV_i C (As := [.int (iI (cwr g r))]) (rest := []) (c_X4_refuse l D yc t1 t2 a A g (cwr g r) (by omega)) (cwV 1 C.hts gX4_fits_X4_refuse rfl rfl rfl (by decide +kernel) ⟨by decide, by decide⟩) (fun H hP => va_recv C.hK hP (ci := 4) (q0 := (0 : Int).toNat) rfl (wo_is (by omega) (by omega) ct_cow)) rfl rfl (Nat.le_of_ble_eq_true rfl) dX4_fits_37 ?_
        intro r9 g9 h9
        rw [h9.1, h9.2]
        clear h9 g9 r9
        try dsimp only
        exact v_ret_i C rfl dX4_fits_40 ⟨(by repeat (first | rfl | rw [if_pos (by omega)] | rw [if_neg (by omega)])), (by repeat (first | rfl | rw [if_pos (by omega)] | rw [if_neg (by omega)]))⟩
    · skip
      refine v_iconst C dX4_fits_19 ?_
      exact v_ret_i C rfl dX4_fits_20 ⟨(by repeat (first | rfl | rw [if_pos (by omega)] | rw [if_neg (by omega)])), (by repeat (first | rfl | rw [if_pos (by omega)] | rw [if_neg (by omega)]))⟩

set_option maxRecDepth 100000 in
set_option maxHeartbeats 4000000 in
theorem c_X4_sure (l : Launch) (D : va_G) (yc : Nat → ClassId) (t1 t2 : Nat) (a : Int → Nat) (A : Nat → Prop) (g : Mm) (r n d : Int) (hr : R32 r) (hn : R32 n) (hd : R32 d) (HC : CI g) : Ci l yX4_sure wsX4_sure { frames := 3, cells := 0, slots := 0, locals := 63 } D yc t1 t2 A (cw a yc) [.ref (a (0)), .int (iI (r)), .int (iI (n)), .int (iI (d))] g (fun r9 g' => r9 = (iI (if (r < 0 ∨ 5 < r) ∨ (n < 1 ∨ 8 < n) ∨ (d < 0 ∨ 999 < d) then -1 else if ¬ cwr g r = 0 then -3 else if ¬ ad (tb (cbD g r) (cbF g r) n 0 (g (6 + r) 1 / 2).toNat) (tb (cbD g r) (cbF g r) n 1 (g (6 + r) 1 / 2).toNat) = 0 ∨ ad (or2 (tb (cbD g r) (cbF g r) n 0 (g (6 + r) 1 / 2).toNat) (tb (cbD g r) (cbF g r) n 1 (g (6 + r) 1 / 2).toNat)) (pw (d % n)) = 0 then -9 else if ¬ ad (tb (cbD g r) (cbF g r) n 1 (g (6 + r) 1 / 2).toNat) (pw (d % n)) = 0 then 1 else 0)) ∧ g' = (if (r < 0 ∨ 5 < r) ∨ (n < 1 ∨ 8 < n) ∨ (d < 0 ∨ 999 < d) then g else if ¬ cwr g r = 0 then fnC g (cwr g r) else g)) := by
  refine start_i (cc := cX4_sure) (nL := 8) (ret := (some .int)) (own := RX4) (by decide +kernel) rfl rfl (Nat.le_of_ble_eq_true rfl) ?_
  intro p e s m9 below meth c9 C
  have wf11 : Cond.fieldLink RX4 11 (TX4 0).1 (TX4 0).2.1 (TX4 0).2.2.1 ∈ wsX4_sure := by decide +kernel
  have hinX4 : ∀ w ∈ u_ws RX4 TX4 10, w ∈ wsX4_sure := by decide +kernel
  have hw5 := cwr_bd g r
  refine v_lv (lv' := [(0, .ref (a (0))), (1, .int (iI (r))), (2, .int (iI (n))), (3, .int (iI (d)))]) rfl ?_
  refine v_iload_n C 1 dX4_sure_0 rfl ?_
  refine v_bipush C dX4_sure_1 (by decide) ?_
  refine v_cS_i C (As := [.int (iI (r)), .int (iI (6))]) (rest := []) (c_X4_isNone l D yc t1 t2 A (cw a yc) g r 6 (by omega) (by omega)) (va_cwS 2 C.hts gX4_sure_X4_isNone rfl rfl rfl (by decide +kernel) ⟨by decide, by decide⟩) rfl rfl (Nat.le_of_ble_eq_true rfl) dX4_sure_3 ?_
  intro r9 g9 h9
  rw [h9.1, h9.2]
  clear h9 g9 r9
  try dsimp only
  refine v_ifb_ne (tgt := 26) C dX4_sure_6 (by decide) (fun c6 => ?_) (fun c6 => ?_)
  · skip
    refine v_iconst C dX4_sure_26 ?_
    exact v_ret_i C rfl dX4_sure_27 ⟨(by repeat (first | rfl | rw [if_pos (by omega)] | rw [if_neg (by omega)])), (by repeat (first | rfl | rw [if_pos (by omega)] | rw [if_neg (by omega)]))⟩
  · skip
    refine v_iload_n C 2 dX4_sure_9 rfl ?_
    refine v_iconst C dX4_sure_10 ?_
    refine v_bipush C dX4_sure_11 (by decide) ?_
    refine v_cS_i C (As := [.int (iI (n)), .int (iI (1)), .int (iI (8))]) (rest := []) (c_X4_outside l D yc t1 t2 A (cw a yc) g n 1 8 (by omega) (by omega) (by omega)) (va_cwS 3 C.hts gX4_sure_X4_outside rfl rfl rfl (by decide +kernel) ⟨by decide, by decide⟩) rfl rfl (Nat.le_of_ble_eq_true rfl) dX4_sure_13 ?_
    intro r9 g9 h9
    rw [h9.1, h9.2]
    clear h9 g9 r9
    try dsimp only
    refine v_ifb_ne (tgt := 26) C dX4_sure_16 (by decide) (fun c16 => ?_) (fun c16 => ?_)
    · skip
      refine v_iconst C dX4_sure_26 ?_
      exact v_ret_i C rfl dX4_sure_27 ⟨(by repeat (first | rfl | rw [if_pos (by omega)] | rw [if_neg (by omega)])), (by repeat (first | rfl | rw [if_pos (by omega)] | rw [if_neg (by omega)]))⟩
    · skip
      refine v_iload_n C 3 dX4_sure_19 rfl ?_
      refine v_cS_i C (As := [.int (iI (d))]) (rest := []) (c_X4_isNoDay l D yc t1 t2 A (cw a yc) g d (by omega)) (va_cwS 1 C.hts gX4_sure_X4_isNoDay rfl rfl rfl (by decide +kernel) ⟨by decide, by decide⟩) rfl rfl (Nat.le_of_ble_eq_true rfl) dX4_sure_20 ?_
      intro r9 g9 h9
      rw [h9.1, h9.2]
      clear h9 g9 r9
      try dsimp only
      refine v_ifb_eq (tgt := 28) C dX4_sure_23 (by decide) (fun c23 => ?_) (fun c23 => ?_)
      · skip
        refine v_aload_n C 0 dX4_sure_28 rfl ?_
        refine v_getf C (by omega) (by omega) ct_cow rfl 0 (by decide) wf11 hinX4 rfl dX4_sure_29 ?_
        refine v_iload_n C 1 dX4_sure_32 rfl ?_
        refine v_aaload (f := fun j => 6 + j) C (by omega) (by omega) 4 rfl ct_rowsA (by omega) (by omega) (by decide) dX4_sure_33 ?_
        refine v_cS_i C (As := [.ref (a (6 + r))]) (rest := []) (c_X4_findingOfBook l D yc t1 t2 a A g r (by omega) HC) (va_cwS 1 C.hts gX4_sure_X4_findingOfBook rfl rfl rfl (by decide +kernel) ⟨by decide, by decide⟩) rfl rfl (Nat.le_of_ble_eq_true rfl) dX4_sure_34 ?_
        intro r9 g9 h9
        rw [h9.1, h9.2]
        clear h9 g9 r9
        try dsimp only
        refine v_istore (lv' := [(4, .int (iI (cwr g r))), (0, .ref (a (0))), (1, .int (iI (r))), (2, .int (iI (n))), (3, .int (iI (d)))]) C dX4_sure_37 (by decide) rfl ?_
        refine v_iload C 0 dX4_sure_39 rfl ?_
        refine v_if_eq (tgt := 51) C dX4_sure_41 (by decide) (by omega) (fun c41 => ?_) (fun c41 => ?_)
        · skip
          have h8 := pw_8 (n := n) (by omega) (by omega)
          have zb := tb_bd (cbD g r) (cbF g r) (n := n) (q := 0) (by omega) (g (6 + r) 1 / 2).toNat
          have ob := tb_bd (cbD g r) (cbF g r) (n := n) (q := 1) (by omega) (g (6 + r) 1 / 2).toNat
          have rb := or2_bd (x := (tb (cbD g r) (cbF g r) n 0 (g (6 + r) 1 / 2).toNat)) (y := (tb (cbD g r) (cbF g r) n 1 (g (6 + r) 1 / 2).toNat)) (n := n) (by omega) (by omega) (by omega) (by omega) (by omega)
          have ab := ad_bd (x := (tb (cbD g r) (cbF g r) n 0 (g (6 + r) 1 / 2).toNat)) (y := (tb (cbD g r) (cbF g r) n 1 (g (6 + r) 1 / 2).toNat)) (by omega) (by omega)
          have rb2 := ad_bd (x := or2 (tb (cbD g r) (cbF g r) n 0 (g (6 + r) 1 / 2).toNat) (tb (cbD g r) (cbF g r) n 1 (g (6 + r) 1 / 2).toNat)) (y := (pw (d % n))) (by omega) (by omega)
          have ob2 := ad_bd (x := (tb (cbD g r) (cbF g r) n 1 (g (6 + r) 1 / 2).toNat)) (y := (pw (d % n))) (by omega) (by omega)
          have hm := emd (d := d) (n := n) (by omega)
          have hpp := pw_pos (d % n)
          refine v_aload_n C 1 dX4_sure_51 rfl ?_
          refine v_getf C (by omega) (by omega) ct_cow rfl 0 (by decide) wf11 hinX4 rfl dX4_sure_52 ?_
          refine v_iload_n C 2 dX4_sure_55 rfl ?_
          refine v_aaload (f := fun j => 6 + j) C (by omega) (by omega) 4 rfl ct_rowsA (by omega) (by omega) (by decide) dX4_sure_56 ?_
          refine v_iload_n C 3 dX4_sure_57 rfl ?_
          refine v_iconst C dX4_sure_58 ?_
          refine v_cS_i C (As := [.ref (a (6 + r)), .int (iI (n)), .int (iI (0))]) (rest := []) (c_X4_turnsInBook l D yc t1 t2 a A g r n 0 (by omega) HC (by omega) (by omega) c41) (va_cwS 3 C.hts gX4_sure_X4_turnsInBook rfl rfl rfl (by decide +kernel) ⟨by decide, by decide⟩) rfl rfl (Nat.le_of_ble_eq_true rfl) dX4_sure_59 ?_
          intro r9 g9 h9
          rw [h9.1, h9.2]
          clear h9 g9 r9
          try dsimp only
          refine v_istore (lv' := [(5, .int (iI (tb (cbD g r) (cbF g r) n 0 (g (6 + r) 1 / 2).toNat))), (4, .int (iI (cwr g r))), (0, .ref (a (0))), (1, .int (iI (r))), (2, .int (iI (n))), (3, .int (iI (d)))]) C dX4_sure_62 (by decide) rfl ?_
          refine v_aload_n C 2 dX4_sure_64 rfl ?_
          refine v_getf C (by omega) (by omega) ct_cow rfl 0 (by decide) wf11 hinX4 rfl dX4_sure_65 ?_
          refine v_iload_n C 3 dX4_sure_68 rfl ?_
          refine v_aaload (f := fun j => 6 + j) C (by omega) (by omega) 4 rfl ct_rowsA (by omega) (by omega) (by decide) dX4_sure_69 ?_
          refine v_iload_n C 4 dX4_sure_70 rfl ?_
          refine v_iconst C dX4_sure_71 ?_
          refine v_cS_i C (As := [.ref (a (6 + r)), .int (iI (n)), .int (iI (1))]) (rest := []) (c_X4_turnsInBook l D yc t1 t2 a A g r n 1 (by omega) HC (by omega) (by omega) c41) (va_cwS 3 C.hts gX4_sure_X4_turnsInBook rfl rfl rfl (by decide +kernel) ⟨by decide, by decide⟩) rfl rfl (Nat.le_of_ble_eq_true rfl) dX4_sure_72 ?_
          intro r9 g9 h9
          rw [h9.1, h9.2]
          clear h9 g9 r9
          try dsimp only
          refine v_istore (lv' := [(6, .int (iI (tb (cbD g r) (cbF g r) n 1 (g (6 + r) 1 / 2).toNat))), (5, .int (iI (tb (cbD g r) (cbF g r) n 0 (g (6 + r) 1 / 2).toNat))), (4, .int (iI (cwr g r))), (0, .ref (a (0))), (1, .int (iI (r))), (2, .int (iI (n))), (3, .int (iI (d)))]) C dX4_sure_75 (by decide) rfl ?_
          refine v_iconst C dX4_sure_77 ?_
          refine v_iload_n C 6 dX4_sure_78 rfl ?_
          refine v_iload_n C 5 dX4_sure_79 rfl ?_
          refine v_irem C dX4_sure_80 (by omega) (by omega) (by omega) (by omega) ?_
          refine v_ishl (z := (iI ((pw (d % n))))) C dX4_sure_81 (shl_1 (by omega) (by omega)) ?_
          refine v_istore (lv' := [(7, .int (iI ((pw (d % n))))), (6, .int (iI (tb (cbD g r) (cbF g r) n 1 (g (6 + r) 1 / 2).toNat))), (5, .int (iI (tb (cbD g r) (cbF g r) n 0 (g (6 + r) 1 / 2).toNat))), (4, .int (iI (cwr g r))), (0, .ref (a (0))), (1, .int (iI (r))), (2, .int (iI (n))), (3, .int (iI (d)))]) C dX4_sure_82 (by decide) rfl ?_
          refine v_iload C 2 dX4_sure_84 rfl ?_
          refine v_iload C 1 dX4_sure_86 rfl ?_
          refine v_iand (z := (iI (ad (tb (cbD g r) (cbF g r) n 0 (g (6 + r) 1 / 2).toNat) (tb (cbD g r) (cbF g r) n 1 (g (6 + r) 1 / 2).toNat)))) C dX4_sure_88 (ad_e (by omega) (by omega)) ?_
          refine v_if_ne (tgt := 103) C dX4_sure_89 (by decide) (by omega) (fun c89 => ?_) (fun c89 => ?_)
          · skip
            refine v_bipush C dX4_sure_103 (by decide) ?_
            exact v_ret_i C rfl dX4_sure_105 ⟨(by repeat (first | rfl | rw [if_pos (by omega)] | rw [if_neg (by omega)])), (by repeat (first | rfl | rw [if_pos (by omega)] | rw [if_neg (by omega)]))⟩
          · skip
            refine v_iload C 2 dX4_sure_92 rfl ?_
            refine v_iload C 1 dX4_sure_94 rfl ?_
            refine v_ior (z := (iI (or2 (tb (cbD g r) (cbF g r) n 0 (g (6 + r) 1 / 2).toNat) (tb (cbD g r) (cbF g r) n 1 (g (6 + r) 1 / 2).toNat)))) C dX4_sure_96 (or2_g (by omega) (by omega)) ?_
            refine v_iload C 0 dX4_sure_97 rfl ?_
            refine v_iand (z := (iI (ad (or2 (tb (cbD g r) (cbF g r) n 0 (g (6 + r) 1 / 2).toNat) (tb (cbD g r) (cbF g r) n 1 (g (6 + r) 1 / 2).toNat)) (pw (d % n))))) C dX4_sure_99 (ad_e (by omega) (by omega)) ?_
            refine v_if_ne (tgt := 106) C dX4_sure_100 (by decide) (by omega) (fun c100 => ?_) (fun c100 => ?_)
            · skip
              refine v_iload C 1 dX4_sure_106 rfl ?_
              refine v_iload C 0 dX4_sure_108 rfl ?_
              refine v_iand (z := (iI (ad (tb (cbD g r) (cbF g r) n 1 (g (6 + r) 1 / 2).toNat) (pw (d % n))))) C dX4_sure_110 (ad_e (by omega) (by omega)) ?_
              refine v_if_eq (tgt := 118) C dX4_sure_111 (by decide) (by omega) (fun c111 => ?_) (fun c111 => ?_)
              · skip
                refine v_iconst C dX4_sure_118 ?_
                exact v_ret_i C rfl dX4_sure_119 ⟨(by repeat (first | rfl | rw [if_pos (by omega)] | rw [if_neg (by omega)])), (by repeat (first | rfl | rw [if_pos (by omega)] | rw [if_neg (by omega)]))⟩
              · skip
                refine v_iconst C dX4_sure_114 ?_
                refine v_goto (tgt := 119) C dX4_sure_115 (by decide) ?_
                exact v_ret_i C rfl dX4_sure_119 ⟨(by repeat (first | rfl | rw [if_pos (by omega)] | rw [if_neg (by omega)])), (by repeat (first | rfl | rw [if_pos (by omega)] | rw [if_neg (by omega)]))⟩
            · skip
              refine v_bipush C dX4_sure_103 (by decide) ?_
              exact v_ret_i C rfl dX4_sure_105 ⟨(by repeat (first | rfl | rw [if_pos (by omega)] | rw [if_neg (by omega)])), (by repeat (first | rfl | rw [if_pos (by omega)] | rw [if_neg (by omega)]))⟩
        · skip
          refine v_aload_n C 1 dX4_sure_44 rfl ?_
          refine v_iload C 0 dX4_sure_45 rfl ?_
          refine v_cV_i C (As := [.int (iI (cwr g r))]) (rest := []) (c_X4_refuse l D yc t1 t2 a A g (cwr g r) (by omega)) (cwV 1 C.hts gX4_sure_X4_refuse rfl rfl rfl (by decide +kernel) ⟨by decide, by decide⟩) (fun H hP => va_recv C.hK hP (ci := 4) (q0 := (0 : Int).toNat) rfl (wo_is (by omega) (by omega) ct_cow)) rfl rfl (Nat.le_of_ble_eq_true rfl) dX4_sure_47 ?_
          intro r9 g9 h9
          rw [h9.1, h9.2]
          clear h9 g9 r9
          try dsimp only
          exact v_ret_i C rfl dX4_sure_50 ⟨(by repeat (first | rfl | rw [if_pos (by omega)] | rw [if_neg (by omega)])), (by repeat (first | rfl | rw [if_pos (by omega)] | rw [if_neg (by omega)]))⟩
      · skip
        refine v_iconst C dX4_sure_26 ?_
        exact v_ret_i C rfl dX4_sure_27 ⟨(by repeat (first | rfl | rw [if_pos (by omega)] | rw [if_neg (by omega)])), (by repeat (first | rfl | rw [if_pos (by omega)] | rw [if_neg (by omega)]))⟩
