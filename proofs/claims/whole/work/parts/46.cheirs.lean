set_option maxRecDepth 100000 in
set_option maxHeartbeats 4000000 in
theorem c_X4_gapOfHeirs (l : Launch) (D : va_G) (yc : Nat → ClassId) (t1 t2 : Nat) (a : Int → Nat) (A : Nat → Prop) (g : Mm) (cd : Int) (F : Int → Int) (hcd : R32 cd) (HF : FR g 0 F) (HI : FI F) (hc : 0 ≤ cd ∧ cd < 1000) : Ci l yX4_gapOfHeirs wsX4_gapOfHeirs { frames := 1, cells := 0, slots := 0, locals := 24 } D yc t1 t2 A (cw a yc) [.ref (a (0)), .int (iI (cd))] g (fun r9 g' => r9 = (iI (hg F cd)) ∧ g' = g) := by
  refine start_i (cc := cX4_gapOfHeirs) (nL := 8) (ret := (some .int)) (own := RX4) (by decide +kernel) rfl rfl (Nat.le_of_ble_eq_true rfl) ?_
  intro p e s m9 below meth c9 C
  have wf21 : Cond.fieldLink RX4 21 (TX4 2).1 (TX4 2).2.1 (TX4 2).2.2.1 ∈ wsX4_gapOfHeirs := by decide +kernel
  have hinX4 : ∀ w ∈ u_ws RX4 TX4 10, w ∈ wsX4_gapOfHeirs := by decide +kernel
  have wf108 : Cond.fieldLink RX4 108 (TX1 7).1 (TX1 7).2.1 (TX1 7).2.2.1 ∈ wsX4_gapOfHeirs := by decide +kernel
  have hinX1 : ∀ w ∈ u_ws RX1 TX1 11, w ∈ wsX4_gapOfHeirs := by decide +kernel
  have wm311 : Cond.methodLink RX4 311 Lib.Math.max.name ∈ wsX4_gapOfHeirs := by decide +kernel
  have wnmax : Cond.static Lib.Math.max.name ∈ wsX4_gapOfHeirs := by decide +kernel
  have wmi : Cond.initialized "java/lang/Math" ∈ wsX4_gapOfHeirs := by decide +kernel
  have womax : Cond.code Lib.Math.max.name Lib.Math.max.code 2 (some .int) ∈ wsX4_gapOfHeirs := by decide +kernel
  have wm235 : Cond.methodLink RX4 235 Lib.Math.min.name ∈ wsX4_gapOfHeirs := by decide +kernel
  have wnmin : Cond.static Lib.Math.min.name ∈ wsX4_gapOfHeirs := by decide +kernel
  have womin : Cond.code Lib.Math.min.name Lib.Math.min.code 2 (some .int) ∈ wsX4_gapOfHeirs := by decide +kernel
  have wf111 : Cond.fieldLink RX4 111 (TX1 2).1 (TX1 2).2.1 (TX1 2).2.2.1 ∈ wsX4_gapOfHeirs := by decide +kernel
  have wf130 : Cond.fieldLink RX4 130 (TX0 3).1 (TX0 3).2.1 (TX0 3).2.2.1 ∈ wsX4_gapOfHeirs := by decide +kernel
  have hinX0 : ∀ w ∈ u_ws RX0 TX0 5, w ∈ wsX4_gapOfHeirs := by decide +kernel
  have hn := HI.n
  refine v_lv (lv' := [(0, .ref (a (0))), (1, .int (iI (cd)))]) rfl ?_
  refine v_iconst C dX4_gapOfHeirs_0 ?_
  refine v_istore_n (lv' := [(2, .int (iI (0))), (0, .ref (a (0))), (1, .int (iI (cd)))]) C dX4_gapOfHeirs_1 (by decide) rfl ?_
  refine v_iconst C dX4_gapOfHeirs_2 ?_
  refine v_istore_n (lv' := [(3, .int (iI (0))), (2, .int (iI (0))), (0, .ref (a (0))), (1, .int (iI (cd)))]) C dX4_gapOfHeirs_3 (by decide) rfl ?_
  refine v_iconst C dX4_gapOfHeirs_4 ?_
  refine v_istore (lv' := [(4, .int (iI (0))), (3, .int (iI (0))), (2, .int (iI (0))), (0, .ref (a (0))), (1, .int (iI (cd)))]) C dX4_gapOfHeirs_5 (by decide) rfl ?_
  refine v_iload_n C 4 dX4_gapOfHeirs_7 rfl ?_
  refine v_istore (lv' := [(5, .int (iI (cd))), (4, .int (iI (0))), (3, .int (iI (0))), (2, .int (iI (0))), (0, .ref (a (0))), (1, .int (iI (cd)))]) C dX4_gapOfHeirs_8 (by decide) rfl ?_
  refine v_aload_n C 4 dX4_gapOfHeirs_10 rfl ?_
  refine v_getf C (by omega) (by omega) ct_cow rfl 2 (by decide) wf21 hinX4 rfl dX4_gapOfHeirs_11 ?_
  refine v_st (st' := [.ref (a (26 + 0))]) rfl ?_
  refine v_getf C (by omega) (by omega) (ct_farm (by omega) (by omega)) rfl 7 (by decide) wf108 hinX1 rfl dX4_gapOfHeirs_14 ?_
  refine v_st (st' := [.int (iI (F 0))]) (by rw [HF.bc]) ?_
  refine v_iconst C dX4_gapOfHeirs_17 ?_
  refine v_isub C dX4_gapOfHeirs_18 ?_
  refine v_istore (lv' := [(6, .int (iI ((F 0) - 1))), (5, .int (iI (cd))), (4, .int (iI (0))), (3, .int (iI (0))), (2, .int (iI (0))), (0, .ref (a (0))), (1, .int (iI (cd)))]) C dX4_gapOfHeirs_19 (by decide) rfl ?_
  refine v_lv (congrArg (fun x9 => ([(6, .int (iI x9)), (5, .int (iI (cd))), (4, .int (iI (0))), (3, .int (iI (0))), (2, .int (iI (0))), (0, .ref (a (0))), (1, .int (iI (cd)))] : List (Nat × Value))) (show ((F 0) - 1) = (F 0 - 1 - ((0 : Int))) by first | rfl | omega | (simp; done))) ?_
  refine v_lv (congrArg (fun x9 => ([(6, .int (iI (F 0 - 1 - ((0 : Int))))), (5, .int (iI x9)), (4, .int (iI (0))), (3, .int (iI (0))), (2, .int (iI (0))), (0, .ref (a (0))), (1, .int (iI (cd)))] : List (Nat × Value))) (show (cd) = (cd / p3 ((0 : Int))) by show cd = cd / 1; omega)) ?_
  refine v_lv (congrArg (fun x9 => ([(6, .int (iI (F 0 - 1 - ((0 : Int))))), (5, .int (iI (cd / p3 ((0 : Int))))), (4, .int (iI x9)), (3, .int (iI (0))), (2, .int (iI (0))), (0, .ref (a (0))), (1, .int (iI (cd)))] : List (Nat × Value))) (show (0) = (hs F cd 2 ((0 : Int))) by first | rfl | omega | (simp; done))) ?_
  refine v_lv (congrArg (fun x9 => ([(6, .int (iI (F 0 - 1 - ((0 : Int))))), (5, .int (iI (cd / p3 ((0 : Int))))), (4, .int (iI (hs F cd 2 ((0 : Int))))), (3, .int (iI x9)), (2, .int (iI (0))), (0, .ref (a (0))), (1, .int (iI (cd)))] : List (Nat × Value))) (show (0) = (hs F cd 1 ((0 : Int))) by first | rfl | omega | (simp; done))) ?_
  refine v_lv (congrArg (fun x9 => ([(6, .int (iI (F 0 - 1 - ((0 : Int))))), (5, .int (iI (cd / p3 ((0 : Int))))), (4, .int (iI (hs F cd 2 ((0 : Int))))), (3, .int (iI (hs F cd 1 ((0 : Int))))), (2, .int (iI x9)), (0, .ref (a (0))), (1, .int (iI (cd)))] : List (Nat × Value))) (show (0) = (hs F cd 0 ((0 : Int))) by first | rfl | omega | (simp; done))) ?_
  refine v_loop1 (fun (t : Int) => (F 0 - t).toNat) (fun (t : Int) => 0 ≤ t ∧ t ≤ F 0) (fun (t : Int) => [(6, .int (iI (F 0 - 1 - t))), (5, .int (iI (cd / p3 t))), (4, .int (iI (hs F cd 2 t))), (3, .int (iI (hs F cd 1 t))), (2, .int (iI (hs F cd 0 t))), (0, .ref (a (0))), (1, .int (iI (cd)))]) (fun (t : Int) => g) ?_ 0 (by omega)
  intro t hI21 ih21
  try dsimp only at ih21 ⊢
  refine v_iload C 0 dX4_gapOfHeirs_21 rfl ?_
  refine v_if_lt (tgt := 107) C dX4_gapOfHeirs_23 (by decide) (by omega) (fun c23 => ?_) (fun c23 => ?_)
  · skip
    have htt : t = F 0 := by omega
    have h0b := hs_bd HI cd 0 (t := F 0) (by omega) (by omega)
    have h1b := hs_bd HI cd 1 (t := F 0) (by omega) (by omega)
    have h2b := hs_bd HI cd 2 (t := F 0) (by omega) (by omega)
    refine v_lv (congrArg (fun x9 => ([(6, .int (iI (F 0 - 1 - t))), (5, .int (iI (cd / p3 t))), (4, .int (iI (hs F cd 2 t))), (3, .int (iI (hs F cd 1 t))), (2, .int (iI x9)), (0, .ref (a (0))), (1, .int (iI (cd)))] : List (Nat × Value))) (show (hs F cd 0 t) = (hs F cd 0 (F 0)) by rw [htt])) ?_
    refine v_lv (congrArg (fun x9 => ([(6, .int (iI (F 0 - 1 - t))), (5, .int (iI (cd / p3 t))), (4, .int (iI (hs F cd 2 t))), (3, .int (iI x9)), (2, .int (iI (hs F cd 0 (F 0)))), (0, .ref (a (0))), (1, .int (iI (cd)))] : List (Nat × Value))) (show (hs F cd 1 t) = (hs F cd 1 (F 0)) by rw [htt])) ?_
    refine v_lv (congrArg (fun x9 => ([(6, .int (iI (F 0 - 1 - t))), (5, .int (iI (cd / p3 t))), (4, .int (iI x9)), (3, .int (iI (hs F cd 1 (F 0)))), (2, .int (iI (hs F cd 0 (F 0)))), (0, .ref (a (0))), (1, .int (iI (cd)))] : List (Nat × Value))) (show (hs F cd 2 t) = (hs F cd 2 (F 0)) by rw [htt])) ?_
    refine v_iload_n C 4 dX4_gapOfHeirs_107 rfl ?_
    refine v_iload_n C 3 dX4_gapOfHeirs_108 rfl ?_
    refine v_iload C 2 dX4_gapOfHeirs_109 rfl ?_
    refine v_mmax C wm311 wnmax wmi womax (by decide) (Nat.le_of_ble_eq_true rfl) (by omega) (by omega) dX4_gapOfHeirs_111 ?_
    refine v_mmax C wm311 wnmax wmi womax (by decide) (Nat.le_of_ble_eq_true rfl) (by (repeat' split) <;> omega) (by (repeat' split) <;> omega) dX4_gapOfHeirs_114 ?_
    refine v_istore (lv' := [(6, .int (iI (if (hs F cd 0 (F 0)) < (if (hs F cd 1 (F 0)) < (hs F cd 2 (F 0)) then (hs F cd 2 (F 0)) else (hs F cd 1 (F 0))) then (if (hs F cd 1 (F 0)) < (hs F cd 2 (F 0)) then (hs F cd 2 (F 0)) else (hs F cd 1 (F 0))) else (hs F cd 0 (F 0))))), (5, .int (iI (cd / p3 t))), (4, .int (iI (hs F cd 2 (F 0)))), (3, .int (iI (hs F cd 1 (F 0)))), (2, .int (iI (hs F cd 0 (F 0)))), (0, .ref (a (0))), (1, .int (iI (cd)))]) C dX4_gapOfHeirs_117 (by decide) rfl ?_
    refine v_iload C 0 dX4_gapOfHeirs_119 rfl ?_
    refine v_iload_n C 4 dX4_gapOfHeirs_121 rfl ?_
    refine v_iload_n C 3 dX4_gapOfHeirs_122 rfl ?_
    refine v_iload C 2 dX4_gapOfHeirs_123 rfl ?_
    refine v_mmin C wm235 wnmin wmi womin (by decide) (Nat.le_of_ble_eq_true rfl) (by omega) (by omega) dX4_gapOfHeirs_125 ?_
    refine v_mmin C wm235 wnmin wmi womin (by decide) (Nat.le_of_ble_eq_true rfl) (by (repeat' split) <;> omega) (by (repeat' split) <;> omega) dX4_gapOfHeirs_128 ?_
    refine v_isub C dX4_gapOfHeirs_131 ?_
    exact v_ret_i C rfl dX4_gapOfHeirs_132 ⟨(by unfold hg; congr 1; (repeat' split) <;> omega), rfl⟩
  · skip
    have hq0 : 0 ≤ cd / p3 t := Int.ediv_nonneg (by omega) (Int.le_of_lt (p3_pos t))
    have hq1 : cd / p3 t ≤ cd := Int.ediv_le_self _ (by omega)
    refine v_aload_n C 5 dX4_gapOfHeirs_26 rfl ?_
    refine v_getf C (by omega) (by omega) ct_cow rfl 2 (by decide) wf21 hinX4 rfl dX4_gapOfHeirs_27 ?_
    refine v_st (st' := [.ref (a (26 + 0))]) rfl ?_
    refine v_getf C (by omega) (by omega) (ct_farm (by omega) (by omega)) rfl 2 (by decide) wf111 hinX1 rfl dX4_gapOfHeirs_30 ?_
    refine v_st (st' := [.ref (a (41 + 0))]) rfl ?_
    refine v_iload C 0 dX4_gapOfHeirs_33 rfl ?_
    refine v_aaload (f := fun j => 56 + 6 * 0 + j) C (by omega) (by omega) 2 rfl (ct_beastsA (by omega) (by omega)) (by omega) (by omega) (by decide) dX4_gapOfHeirs_35 ?_
    refine v_getf C (by omega) (by omega) (ct_beast (by omega) (by omega) (by omega) (by omega)) rfl 3 (by decide) wf130 hinX0 rfl dX4_gapOfHeirs_36 ?_
    refine v_st (st' := [.int (iI (vT F (F 0 - 1 - t) 0))]) (by rw [(HF.bs (i := F 0 - 1 - t) (by omega) (by omega)).2.2.2.1]) ?_
    refine v_istore (lv' := [(7, .int (iI (vT F (F 0 - 1 - t) 0))), (6, .int (iI (F 0 - 1 - t))), (5, .int (iI (cd / p3 t))), (4, .int (iI (hs F cd 2 t))), (3, .int (iI (hs F cd 1 t))), (2, .int (iI (hs F cd 0 t))), (0, .ref (a (0))), (1, .int (iI (cd)))]) C dX4_gapOfHeirs_39 (by decide) rfl ?_
    refine v_iload C 2 dX4_gapOfHeirs_41 rfl ?_
    refine v_iconst C dX4_gapOfHeirs_43 ?_
    refine v_irem C dX4_gapOfHeirs_44 (by omega) (by omega) (by omega) (by omega) ?_
    rcases (show (cd / p3 t) % 3 = 0 ∨ (cd / p3 t) % 3 = 1 ∨ (¬ (cd / p3 t) % 3 = 0 ∧ ¬ (cd / p3 t) % 3 = 1) by omega) with c45 | c45 | c45
    · refine v_lsw (off := 27) (tgt := 72) C dX4_gapOfHeirs_45 (by omega) rfl (by rw [c45]; decide) (by decide) ?_
      refine v_iload_n C 5 dX4_gapOfHeirs_72 rfl ?_
      refine v_iload C 0 dX4_gapOfHeirs_73 rfl ?_
      refine v_iadd C dX4_gapOfHeirs_75 ?_
      refine v_istore_n (lv' := [(2, .int (iI ((hs F cd 0 t) + (vT F (F 0 - 1 - t) 0)))), (7, .int (iI (vT F (F 0 - 1 - t) 0))), (6, .int (iI (F 0 - 1 - t))), (5, .int (iI (cd / p3 t))), (4, .int (iI (hs F cd 2 t))), (3, .int (iI (hs F cd 1 t))), (0, .ref (a (0))), (1, .int (iI (cd)))]) C dX4_gapOfHeirs_76 (by decide) rfl ?_
      refine v_goto (tgt := 95) C dX4_gapOfHeirs_77 (by decide) ?_
      refine v_iload C 3 dX4_gapOfHeirs_95 rfl ?_
      refine v_iconst C dX4_gapOfHeirs_97 ?_
      refine v_idiv C dX4_gapOfHeirs_98 (by omega) (by omega) (by omega) (by omega) ?_
      refine v_istore (lv' := [(5, .int (iI ((cd / p3 t) / 3))), (2, .int (iI ((hs F cd 0 t) + (vT F (F 0 - 1 - t) 0)))), (7, .int (iI (vT F (F 0 - 1 - t) 0))), (6, .int (iI (F 0 - 1 - t))), (4, .int (iI (hs F cd 2 t))), (3, .int (iI (hs F cd 1 t))), (0, .ref (a (0))), (1, .int (iI (cd)))]) C dX4_gapOfHeirs_99 (by decide) rfl ?_
      refine v_iinc (z' := F 0 - 1 - t - 1) (lv' := [(6, .int (iI (F 0 - 1 - t - 1))), (5, .int (iI ((cd / p3 t) / 3))), (2, .int (iI ((hs F cd 0 t) + (vT F (F 0 - 1 - t) 0)))), (7, .int (iI (vT F (F 0 - 1 - t) 0))), (4, .int (iI (hs F cd 2 t))), (3, .int (iI (hs F cd 1 t))), (0, .ref (a (0))), (1, .int (iI (cd)))]) C 3 dX4_gapOfHeirs_101 rfl (by omega) (by decide) rfl ?_
      refine v_goto (tgt := 21) C dX4_gapOfHeirs_104 (by decide) ?_
      refine v_sub (lv' := [(6, .int (iI (F 0 - 1 - t - 1))), (5, .int (iI ((cd / p3 t) / 3))), (4, .int (iI (hs F cd 2 t))), (3, .int (iI (hs F cd 1 t))), (2, .int (iI ((hs F cd 0 t) + (vT F (F 0 - 1 - t) 0)))), (0, .ref (a (0))), (1, .int (iI (cd)))]) [0, 1, 4, 5, 2, 6, 7] rfl ?_
      refine v_lv (congrArg (fun x9 => ([(6, .int (iI x9)), (5, .int (iI ((cd / p3 t) / 3))), (4, .int (iI (hs F cd 2 t))), (3, .int (iI (hs F cd 1 t))), (2, .int (iI ((hs F cd 0 t) + (vT F (F 0 - 1 - t) 0)))), (0, .ref (a (0))), (1, .int (iI (cd)))] : List (Nat × Value))) (show (F 0 - 1 - t - 1) = (F 0 - 1 - (t + 1)) by first | rfl | (omega))) ?_
      refine v_lv (congrArg (fun x9 => ([(6, .int (iI (F 0 - 1 - (t + 1)))), (5, .int (iI x9)), (4, .int (iI (hs F cd 2 t))), (3, .int (iI (hs F cd 1 t))), (2, .int (iI ((hs F cd 0 t) + (vT F (F 0 - 1 - t) 0)))), (0, .ref (a (0))), (1, .int (iI (cd)))] : List (Nat × Value))) (show ((cd / p3 t) / 3) = (cd / p3 (t + 1)) by first | rfl | (exact div_p3 (by omega)))) ?_
      refine v_lv (congrArg (fun x9 => ([(6, .int (iI (F 0 - 1 - (t + 1)))), (5, .int (iI (cd / p3 (t + 1)))), (4, .int (iI x9)), (3, .int (iI (hs F cd 1 t))), (2, .int (iI ((hs F cd 0 t) + (vT F (F 0 - 1 - t) 0)))), (0, .ref (a (0))), (1, .int (iI (cd)))] : List (Nat × Value))) (show (hs F cd 2 t) = (hs F cd 2 (t + 1)) by first | rfl | (rw [hs_s _ _ _ (by omega)]; first | (rw [if_pos (by omega)]; done) | (rw [if_neg (by omega)]; omega)))) ?_
      refine v_lv (congrArg (fun x9 => ([(6, .int (iI (F 0 - 1 - (t + 1)))), (5, .int (iI (cd / p3 (t + 1)))), (4, .int (iI (hs F cd 2 (t + 1)))), (3, .int (iI x9)), (2, .int (iI ((hs F cd 0 t) + (vT F (F 0 - 1 - t) 0)))), (0, .ref (a (0))), (1, .int (iI (cd)))] : List (Nat × Value))) (show (hs F cd 1 t) = (hs F cd 1 (t + 1)) by first | rfl | (rw [hs_s _ _ _ (by omega)]; first | (rw [if_pos (by omega)]; done) | (rw [if_neg (by omega)]; omega)))) ?_
      refine v_lv (congrArg (fun x9 => ([(6, .int (iI (F 0 - 1 - (t + 1)))), (5, .int (iI (cd / p3 (t + 1)))), (4, .int (iI (hs F cd 2 (t + 1)))), (3, .int (iI (hs F cd 1 (t + 1)))), (2, .int (iI x9)), (0, .ref (a (0))), (1, .int (iI (cd)))] : List (Nat × Value))) (show ((hs F cd 0 t) + (vT F (F 0 - 1 - t) 0)) = (hs F cd 0 (t + 1)) by first | rfl | (rw [hs_s _ _ _ (by omega)]; first | (rw [if_pos (by omega)]; done) | (rw [if_neg (by omega)]; omega)))) ?_
      exact ih21 (t + 1) (by omega) (by omega)
    · refine v_lsw (off := 35) (tgt := 80) C dX4_gapOfHeirs_45 (by omega) rfl (by rw [c45]; decide) (by decide) ?_
      refine v_iload_n C 4 dX4_gapOfHeirs_80 rfl ?_
      refine v_iload C 0 dX4_gapOfHeirs_81 rfl ?_
      refine v_iadd C dX4_gapOfHeirs_83 ?_
      refine v_istore_n (lv' := [(3, .int (iI ((hs F cd 1 t) + (vT F (F 0 - 1 - t) 0)))), (7, .int (iI (vT F (F 0 - 1 - t) 0))), (6, .int (iI (F 0 - 1 - t))), (5, .int (iI (cd / p3 t))), (4, .int (iI (hs F cd 2 t))), (2, .int (iI (hs F cd 0 t))), (0, .ref (a (0))), (1, .int (iI (cd)))]) C dX4_gapOfHeirs_84 (by decide) rfl ?_
      refine v_goto (tgt := 95) C dX4_gapOfHeirs_85 (by decide) ?_
      refine v_iload C 3 dX4_gapOfHeirs_95 rfl ?_
      refine v_iconst C dX4_gapOfHeirs_97 ?_
      refine v_idiv C dX4_gapOfHeirs_98 (by omega) (by omega) (by omega) (by omega) ?_
      refine v_istore (lv' := [(5, .int (iI ((cd / p3 t) / 3))), (3, .int (iI ((hs F cd 1 t) + (vT F (F 0 - 1 - t) 0)))), (7, .int (iI (vT F (F 0 - 1 - t) 0))), (6, .int (iI (F 0 - 1 - t))), (4, .int (iI (hs F cd 2 t))), (2, .int (iI (hs F cd 0 t))), (0, .ref (a (0))), (1, .int (iI (cd)))]) C dX4_gapOfHeirs_99 (by decide) rfl ?_
      refine v_iinc (z' := F 0 - 1 - t - 1) (lv' := [(6, .int (iI (F 0 - 1 - t - 1))), (5, .int (iI ((cd / p3 t) / 3))), (3, .int (iI ((hs F cd 1 t) + (vT F (F 0 - 1 - t) 0)))), (7, .int (iI (vT F (F 0 - 1 - t) 0))), (4, .int (iI (hs F cd 2 t))), (2, .int (iI (hs F cd 0 t))), (0, .ref (a (0))), (1, .int (iI (cd)))]) C 3 dX4_gapOfHeirs_101 rfl (by omega) (by decide) rfl ?_
      refine v_goto (tgt := 21) C dX4_gapOfHeirs_104 (by decide) ?_
      refine v_sub (lv' := [(6, .int (iI (F 0 - 1 - t - 1))), (5, .int (iI ((cd / p3 t) / 3))), (4, .int (iI (hs F cd 2 t))), (3, .int (iI ((hs F cd 1 t) + (vT F (F 0 - 1 - t) 0)))), (2, .int (iI (hs F cd 0 t))), (0, .ref (a (0))), (1, .int (iI (cd)))]) [0, 1, 4, 2, 5, 6, 7] rfl ?_
      refine v_lv (congrArg (fun x9 => ([(6, .int (iI x9)), (5, .int (iI ((cd / p3 t) / 3))), (4, .int (iI (hs F cd 2 t))), (3, .int (iI ((hs F cd 1 t) + (vT F (F 0 - 1 - t) 0)))), (2, .int (iI (hs F cd 0 t))), (0, .ref (a (0))), (1, .int (iI (cd)))] : List (Nat × Value))) (show (F 0 - 1 - t - 1) = (F 0 - 1 - (t + 1)) by first | rfl | (omega))) ?_
      refine v_lv (congrArg (fun x9 => ([(6, .int (iI (F 0 - 1 - (t + 1)))), (5, .int (iI x9)), (4, .int (iI (hs F cd 2 t))), (3, .int (iI ((hs F cd 1 t) + (vT F (F 0 - 1 - t) 0)))), (2, .int (iI (hs F cd 0 t))), (0, .ref (a (0))), (1, .int (iI (cd)))] : List (Nat × Value))) (show ((cd / p3 t) / 3) = (cd / p3 (t + 1)) by first | rfl | (exact div_p3 (by omega)))) ?_
      refine v_lv (congrArg (fun x9 => ([(6, .int (iI (F 0 - 1 - (t + 1)))), (5, .int (iI (cd / p3 (t + 1)))), (4, .int (iI x9)), (3, .int (iI ((hs F cd 1 t) + (vT F (F 0 - 1 - t) 0)))), (2, .int (iI (hs F cd 0 t))), (0, .ref (a (0))), (1, .int (iI (cd)))] : List (Nat × Value))) (show (hs F cd 2 t) = (hs F cd 2 (t + 1)) by first | rfl | (rw [hs_s _ _ _ (by omega)]; first | (rw [if_pos (by omega)]; done) | (rw [if_neg (by omega)]; omega)))) ?_
      refine v_lv (congrArg (fun x9 => ([(6, .int (iI (F 0 - 1 - (t + 1)))), (5, .int (iI (cd / p3 (t + 1)))), (4, .int (iI (hs F cd 2 (t + 1)))), (3, .int (iI x9)), (2, .int (iI (hs F cd 0 t))), (0, .ref (a (0))), (1, .int (iI (cd)))] : List (Nat × Value))) (show ((hs F cd 1 t) + (vT F (F 0 - 1 - t) 0)) = (hs F cd 1 (t + 1)) by first | rfl | (rw [hs_s _ _ _ (by omega)]; first | (rw [if_pos (by omega)]; done) | (rw [if_neg (by omega)]; omega)))) ?_
      refine v_lv (congrArg (fun x9 => ([(6, .int (iI (F 0 - 1 - (t + 1)))), (5, .int (iI (cd / p3 (t + 1)))), (4, .int (iI (hs F cd 2 (t + 1)))), (3, .int (iI (hs F cd 1 (t + 1)))), (2, .int (iI x9)), (0, .ref (a (0))), (1, .int (iI (cd)))] : List (Nat × Value))) (show (hs F cd 0 t) = (hs F cd 0 (t + 1)) by first | rfl | (rw [hs_s _ _ _ (by omega)]; first | (rw [if_pos (by omega)]; done) | (rw [if_neg (by omega)]; omega)))) ?_
      exact ih21 (t + 1) (by omega) (by omega)
    · refine v_lsw (off := 43) (tgt := 88) C dX4_gapOfHeirs_45 (by omega) rfl (by simp [Op.lookupswitch.offset, c45, show ¬ (0 : Int) = (cd / p3 t) % 3 by omega, show ¬ (1 : Int) = (cd / p3 t) % 3 by omega]) (by decide) ?_
      refine v_iload C 3 dX4_gapOfHeirs_88 rfl ?_
      refine v_iload C 0 dX4_gapOfHeirs_90 rfl ?_
      refine v_iadd C dX4_gapOfHeirs_92 ?_
      refine v_istore (lv' := [(4, .int (iI ((hs F cd 2 t) + (vT F (F 0 - 1 - t) 0)))), (7, .int (iI (vT F (F 0 - 1 - t) 0))), (6, .int (iI (F 0 - 1 - t))), (5, .int (iI (cd / p3 t))), (3, .int (iI (hs F cd 1 t))), (2, .int (iI (hs F cd 0 t))), (0, .ref (a (0))), (1, .int (iI (cd)))]) C dX4_gapOfHeirs_93 (by decide) rfl ?_
      refine v_iload C 3 dX4_gapOfHeirs_95 rfl ?_
      refine v_iconst C dX4_gapOfHeirs_97 ?_
      refine v_idiv C dX4_gapOfHeirs_98 (by omega) (by omega) (by omega) (by omega) ?_
      refine v_istore (lv' := [(5, .int (iI ((cd / p3 t) / 3))), (4, .int (iI ((hs F cd 2 t) + (vT F (F 0 - 1 - t) 0)))), (7, .int (iI (vT F (F 0 - 1 - t) 0))), (6, .int (iI (F 0 - 1 - t))), (3, .int (iI (hs F cd 1 t))), (2, .int (iI (hs F cd 0 t))), (0, .ref (a (0))), (1, .int (iI (cd)))]) C dX4_gapOfHeirs_99 (by decide) rfl ?_
      refine v_iinc (z' := F 0 - 1 - t - 1) (lv' := [(6, .int (iI (F 0 - 1 - t - 1))), (5, .int (iI ((cd / p3 t) / 3))), (4, .int (iI ((hs F cd 2 t) + (vT F (F 0 - 1 - t) 0)))), (7, .int (iI (vT F (F 0 - 1 - t) 0))), (3, .int (iI (hs F cd 1 t))), (2, .int (iI (hs F cd 0 t))), (0, .ref (a (0))), (1, .int (iI (cd)))]) C 3 dX4_gapOfHeirs_101 rfl (by omega) (by decide) rfl ?_
      refine v_goto (tgt := 21) C dX4_gapOfHeirs_104 (by decide) ?_
      refine v_sub (lv' := [(6, .int (iI (F 0 - 1 - t - 1))), (5, .int (iI ((cd / p3 t) / 3))), (4, .int (iI ((hs F cd 2 t) + (vT F (F 0 - 1 - t) 0)))), (3, .int (iI (hs F cd 1 t))), (2, .int (iI (hs F cd 0 t))), (0, .ref (a (0))), (1, .int (iI (cd)))]) [0, 1, 2, 4, 5, 6, 7] rfl ?_
      refine v_lv (congrArg (fun x9 => ([(6, .int (iI x9)), (5, .int (iI ((cd / p3 t) / 3))), (4, .int (iI ((hs F cd 2 t) + (vT F (F 0 - 1 - t) 0)))), (3, .int (iI (hs F cd 1 t))), (2, .int (iI (hs F cd 0 t))), (0, .ref (a (0))), (1, .int (iI (cd)))] : List (Nat × Value))) (show (F 0 - 1 - t - 1) = (F 0 - 1 - (t + 1)) by first | rfl | (omega))) ?_
      refine v_lv (congrArg (fun x9 => ([(6, .int (iI (F 0 - 1 - (t + 1)))), (5, .int (iI x9)), (4, .int (iI ((hs F cd 2 t) + (vT F (F 0 - 1 - t) 0)))), (3, .int (iI (hs F cd 1 t))), (2, .int (iI (hs F cd 0 t))), (0, .ref (a (0))), (1, .int (iI (cd)))] : List (Nat × Value))) (show ((cd / p3 t) / 3) = (cd / p3 (t + 1)) by first | rfl | (exact div_p3 (by omega)))) ?_
      refine v_lv (congrArg (fun x9 => ([(6, .int (iI (F 0 - 1 - (t + 1)))), (5, .int (iI (cd / p3 (t + 1)))), (4, .int (iI x9)), (3, .int (iI (hs F cd 1 t))), (2, .int (iI (hs F cd 0 t))), (0, .ref (a (0))), (1, .int (iI (cd)))] : List (Nat × Value))) (show ((hs F cd 2 t) + (vT F (F 0 - 1 - t) 0)) = (hs F cd 2 (t + 1)) by first | rfl | (rw [hs_s _ _ _ (by omega)]; first | (rw [if_pos (by omega)]; done) | (rw [if_neg (by omega)]; omega)))) ?_
      refine v_lv (congrArg (fun x9 => ([(6, .int (iI (F 0 - 1 - (t + 1)))), (5, .int (iI (cd / p3 (t + 1)))), (4, .int (iI (hs F cd 2 (t + 1)))), (3, .int (iI x9)), (2, .int (iI (hs F cd 0 t))), (0, .ref (a (0))), (1, .int (iI (cd)))] : List (Nat × Value))) (show (hs F cd 1 t) = (hs F cd 1 (t + 1)) by first | rfl | (rw [hs_s _ _ _ (by omega)]; first | (rw [if_pos (by omega)]; done) | (rw [if_neg (by omega)]; omega)))) ?_
      refine v_lv (congrArg (fun x9 => ([(6, .int (iI (F 0 - 1 - (t + 1)))), (5, .int (iI (cd / p3 (t + 1)))), (4, .int (iI (hs F cd 2 (t + 1)))), (3, .int (iI (hs F cd 1 (t + 1)))), (2, .int (iI x9)), (0, .ref (a (0))), (1, .int (iI (cd)))] : List (Nat × Value))) (show (hs F cd 0 t) = (hs F cd 0 (t + 1)) by first | rfl | (rw [hs_s _ _ _ (by omega)]; first | (rw [if_pos (by omega)]; done) | (rw [if_neg (by omega)]; omega)))) ?_
      exact ih21 (t + 1) (by omega) (by omega)

set_option maxRecDepth 100000 in
set_option maxHeartbeats 4000000 in
theorem c_X4_heirs (l : Launch) (D : va_G) (yc : Nat → ClassId) (t1 t2 : Nat) (a : Int → Nat) (A : Nat → Prop) (g : Mm) (F : Int → Int) (HF : FR g 0 F) (HI : FI F) : Ci l yX4_heirs wsX4_heirs { frames := 2, cells := 0, slots := 0, locals := 51 } D yc t1 t2 A (cw a yc) [.ref (a (0))] g (fun r9 g' => r9 = (iI (if F 0 = 0 then -4 else hg F (ab (hgB F) (p3 (F 0) - 1).toNat))) ∧ g' = (if F 0 = 0 then g else mu g 0 7 (ab (hgB F) (p3 (F 0) - 1).toNat))) := by
  refine start_i (cc := cX4_heirs) (nL := 6) (ret := (some .int)) (own := RX4) (by decide +kernel) rfl rfl (Nat.le_of_ble_eq_true rfl) ?_
  intro p e s m9 below meth c9 C
  have wf21 : Cond.fieldLink RX4 21 (TX4 2).1 (TX4 2).2.1 (TX4 2).2.2.1 ∈ wsX4_heirs := by decide +kernel
  have hinX4 : ∀ w ∈ u_ws RX4 TX4 10, w ∈ wsX4_heirs := by decide +kernel
  have wf108 : Cond.fieldLink RX4 108 (TX1 7).1 (TX1 7).2.1 (TX1 7).2.2.1 ∈ wsX4_heirs := by decide +kernel
  have hinX1 : ∀ w ∈ u_ws RX1 TX1 11, w ∈ wsX4_heirs := by decide +kernel
  have wk198 : Cond.constant RX4 198 1000000 ∈ wsX4_heirs := by decide +kernel
  have wf74 : Cond.fieldLink RX4 74 (TX4 7).1 (TX4 7).2.1 (TX4 7).2.2.1 ∈ wsX4_heirs := by decide +kernel
  have hn := HI.n
  refine v_lv (lv' := [(0, .ref (a (0)))]) rfl ?_
  refine v_aload_n C 0 dX4_heirs_0 rfl ?_
  refine v_getf C (by omega) (by omega) ct_cow rfl 2 (by decide) wf21 hinX4 rfl dX4_heirs_1 ?_
  refine v_st (st' := [.ref (a (26 + 0))]) rfl ?_
  refine v_cV_i C (As := []) (rest := []) (c_X1_isMissing l D yc t1 t2 a A g 0 F (by omega) HF HI) (cwV 0 C.hts gX4_heirs_X1_isMissing rfl rfl rfl (by decide +kernel) ⟨by decide, by decide⟩) (fun H hP => va_recv C.hK hP (ci := 1) (q0 := (26 + 0 : Int).toNat) rfl (wo_is (by omega) (by omega) (ct_farm (by omega) (by omega)))) rfl rfl (Nat.le_of_ble_eq_true rfl) dX4_heirs_4 ?_
  intro r9 g9 h9
  rw [h9.1, h9.2]
  clear h9 g9 r9
  try dsimp only
  refine v_ifb_eq (tgt := 13) C dX4_heirs_7 (by decide) (fun c7 => ?_) (fun c7 => ?_)
  · skip
    refine v_iconst C dX4_heirs_13 ?_
    refine v_istore_n (lv' := [(1, .int (iI (1))), (0, .ref (a (0)))]) C dX4_heirs_14 (by decide) rfl ?_
    refine v_iconst C dX4_heirs_15 ?_
    refine v_istore_n (lv' := [(2, .int (iI (0))), (1, .int (iI (1))), (0, .ref (a (0)))]) C dX4_heirs_16 (by decide) rfl ?_
    refine v_lv (congrArg (fun x9 => ([(2, .int (iI x9)), (1, .int (iI (1))), (0, .ref (a (0)))] : List (Nat × Value))) (show (0) = (((0 : Int))) by first | rfl | omega | (simp; done))) ?_
    refine v_lv (congrArg (fun x9 => ([(2, .int (iI (((0 : Int))))), (1, .int (iI x9)), (0, .ref (a (0)))] : List (Nat × Value))) (show (1) = (p3 ((0 : Int))) by first | rfl | omega | (simp; done))) ?_
    refine v_loop1 (fun (z : Int) => (F 0 - z).toNat) (fun (z : Int) => 0 ≤ z ∧ z ≤ F 0) (fun (z : Int) => [(2, .int (iI (z))), (1, .int (iI (p3 z))), (0, .ref (a (0)))]) (fun (z : Int) => g) ?_ 0 (by omega)
    intro z hI17 ih17
    try dsimp only at ih17 ⊢
    refine v_iload_n C 0 dX4_heirs_17 rfl ?_
    refine v_aload_n C 2 dX4_heirs_18 rfl ?_
    refine v_getf C (by omega) (by omega) ct_cow rfl 2 (by decide) wf21 hinX4 rfl dX4_heirs_19 ?_
    refine v_st (st' := [.ref (a (26 + 0)), .int (iI (z))]) rfl ?_
    refine v_getf C (by omega) (by omega) (ct_farm (by omega) (by omega)) rfl 7 (by decide) wf108 hinX1 rfl dX4_heirs_22 ?_
    refine v_st (st' := [.int (iI (F 0)), .int (iI (z))]) (by rw [HF.bc]) ?_
    refine v_icmp_ge (tgt := 38) C dX4_heirs_25 (by decide) (by omega) (by omega) (fun c25 => ?_) (fun c25 => ?_)
    · skip
      have hpp := p3_tab (i := F 0) (by omega) (by omega)
      have hxx : z = F 0 := by omega
      refine v_lv (congrArg (fun x9 => ([(2, .int (iI (z))), (1, .int (iI x9)), (0, .ref (a (0)))] : List (Nat × Value))) (show (p3 z) = (p3 (F 0)) by rw [hxx])) ?_
      refine v_ldc (z := 1000000) C wk198 dX4_heirs_38 (by decide) ?_
      refine v_istore_n (lv' := [(2, .int (iI (1000000))), (1, .int (iI (p3 (F 0)))), (0, .ref (a (0)))]) C dX4_heirs_40 (by decide) rfl ?_
      refine v_iconst C dX4_heirs_41 ?_
      refine v_istore_n (lv' := [(3, .int (iI (0))), (2, .int (iI (1000000))), (1, .int (iI (p3 (F 0)))), (0, .ref (a (0)))]) C dX4_heirs_42 (by decide) rfl ?_
      refine v_iconst C dX4_heirs_43 ?_
      refine v_istore (lv' := [(4, .int (iI (0))), (3, .int (iI (0))), (2, .int (iI (1000000))), (1, .int (iI (p3 (F 0)))), (0, .ref (a (0)))]) C dX4_heirs_44 (by decide) rfl ?_
      refine v_lv (congrArg (fun x9 => ([(4, .int (iI x9)), (3, .int (iI (0))), (2, .int (iI (1000000))), (1, .int (iI (p3 (F 0)))), (0, .ref (a (0)))] : List (Nat × Value))) (show (0) = (((0 : Int))) by first | rfl | omega | (simp; done))) ?_
      refine v_lv (congrArg (fun x9 => ([(4, .int (iI (((0 : Int))))), (3, .int (iI x9)), (2, .int (iI (1000000))), (1, .int (iI (p3 (F 0)))), (0, .ref (a (0)))] : List (Nat × Value))) (show (0) = (((0 : Int))) by first | rfl | omega | (simp; done))) ?_
      refine v_lv (congrArg (fun x9 => ([(4, .int (iI (((0 : Int))))), (3, .int (iI (((0 : Int))))), (2, .int (iI x9)), (1, .int (iI (p3 (F 0)))), (0, .ref (a (0)))] : List (Nat × Value))) (show (1000000) = (((1000000 : Int))) by first | rfl | omega | (simp; done))) ?_
      refine v_loop3 (fun (x : Int) (y : Int) (t : Int) => (p3 (F 0) - t).toNat) (fun (x : Int) (y : Int) (t : Int) => 0 ≤ t ∧ t ≤ p3 (F 0) ∧ (t = 0 → y = 0 ∧ x = 1000000) ∧ (0 < t → y = ab (hgB F) (t - 1).toNat ∧ x = hg F y)) (fun (x : Int) (y : Int) (t : Int) => [(4, .int (iI (t))), (3, .int (iI (y))), (2, .int (iI (x))), (1, .int (iI (p3 (F 0)))), (0, .ref (a (0)))]) (fun (x : Int) (y : Int) (t : Int) => g) ?_ 1000000 0 0 ⟨by omega, by omega, fun _ => ⟨rfl, rfl⟩, fun h => absurd h (by omega)⟩
      intro x y t hI46 ih46
      try dsimp only at ih46 ⊢
      refine v_iload C 0 dX4_heirs_46 rfl ?_
      refine v_iload_n C 3 dX4_heirs_48 rfl ?_
      refine v_icmp_ge (tgt := 78) C dX4_heirs_49 (by decide) (by omega) (by omega) (fun c49 => ?_) (fun c49 => ?_)
      · skip
        refine v_aload_n C 4 dX4_heirs_78 rfl ?_
        refine v_iload_n C 1 dX4_heirs_79 rfl ?_
        refine v_puti C (cta_L a yc) (by omega) (by omega) ct_cow rfl 7 (by decide) wf74 hinX4 tyX4 tyX4_ok nmX4 rfl (by decide +kernel) (by simp) cs_cow_7 dX4_heirs_80 ?_
        refine v_g (g' := (mu g (0) (7) (y))) rfl ?_
        refine v_iload_n C 2 dX4_heirs_83 rfl ?_
        exact v_ret_i C rfl dX4_heirs_84 ⟨(by have hq := hI46.2.2.2 (by omega); rw [if_neg (by omega), hq.2, hq.1, show (t - 1).toNat = (p3 (F 0) - 1).toNat by omega]), (by have hq := hI46.2.2.2 (by omega); rw [if_neg (by omega), hq.1, show (t - 1).toNat = (p3 (F 0) - 1).toNat by omega])⟩
      · skip
        have hxy : x = 1000000 ∨ x = hg F y := (Classical.em (t = 0)).elim (fun h9 => Or.inl (hI46.2.2.1 h9).2) (fun h9 => Or.inr (hI46.2.2.2 (by omega)).2)
        have hlb := hg_bd HI t
        have hlx := hg_bd HI y
        have hab := ab_r (hgB F) (t - 1).toNat
        refine v_aload_n C 4 dX4_heirs_52 rfl ?_
        refine v_iload C 0 dX4_heirs_53 rfl ?_
        refine v_cV_i C (As := [.int (iI (t))]) (rest := []) (c_X4_gapOfHeirs l D yc t1 t2 a A g t F (by omega) HF HI (by omega)) (cwV 1 C.hts gX4_heirs_X4_gapOfHeirs rfl rfl rfl (by decide +kernel) ⟨by decide, by decide⟩) (fun H hP => va_recv C.hK hP (ci := 4) (q0 := (0 : Int).toNat) rfl (wo_is (by omega) (by omega) ct_cow)) rfl rfl (Nat.le_of_ble_eq_true rfl) dX4_heirs_55 ?_
        intro r9 g9 h9
        rw [h9.1, h9.2]
        clear h9 g9 r9
        try dsimp only
        refine v_istore (lv' := [(5, .int (iI (hg F t))), (4, .int (iI (t))), (3, .int (iI (y))), (2, .int (iI (x))), (1, .int (iI (p3 (F 0)))), (0, .ref (a (0)))]) C dX4_heirs_58 (by decide) rfl ?_
        refine v_iload C 0 dX4_heirs_60 rfl ?_
        refine v_iload_n C 3 dX4_heirs_62 rfl ?_
        refine v_icmp_ge (tgt := 72) C dX4_heirs_63 (by decide) (by omega) (by omega) (fun c63 => ?_) (fun c63 => ?_)
        · skip
          refine v_iinc (z' := t + 1) (lv' := [(4, .int (iI (t + 1))), (5, .int (iI (hg F t))), (3, .int (iI (y))), (2, .int (iI (x))), (1, .int (iI (p3 (F 0)))), (0, .ref (a (0)))]) C 1 dX4_heirs_72 rfl (by omega) (by decide) rfl ?_
          refine v_goto (tgt := 46) C dX4_heirs_75 (by decide) ?_
          refine v_sub (lv' := [(4, .int (iI (t + 1))), (3, .int (iI (y))), (2, .int (iI (x))), (1, .int (iI (p3 (F 0)))), (0, .ref (a (0)))]) [0, 2, 3, 4, 5] rfl ?_
          exact ih46 x y (t + 1) ⟨by omega, by omega, fun h => by omega, fun _ => by
        rw [show t + 1 - 1 = t by omega]
        by_cases h0 : t = 0
        · first | (subst h0; exact ⟨rfl, rfl⟩) | (exfalso; have := hI46.2.2.1 h0; omega)
        · have hq := hI46.2.2.2 (by omega)
          rw [ab_s (t := t) (by omega), ← hq.1]
          first | (rw [if_pos (by exact decide_eq_true (by omega))]; exact ⟨rfl, rfl⟩) | (rw [if_neg (by exact fun h => absurd (of_decide_eq_true h) (by omega))]; exact ⟨rfl, hq.2⟩)⟩ (by omega)
        · skip
          refine v_iload C 0 dX4_heirs_66 rfl ?_
          refine v_istore_n (lv' := [(2, .int (iI (hg F t))), (5, .int (iI (hg F t))), (4, .int (iI (t))), (3, .int (iI (y))), (1, .int (iI (p3 (F 0)))), (0, .ref (a (0)))]) C dX4_heirs_68 (by decide) rfl ?_
          refine v_iload C 2 dX4_heirs_69 rfl ?_
          refine v_istore_n (lv' := [(3, .int (iI (t))), (2, .int (iI (hg F t))), (5, .int (iI (hg F t))), (4, .int (iI (t))), (1, .int (iI (p3 (F 0)))), (0, .ref (a (0)))]) C dX4_heirs_71 (by decide) rfl ?_
          refine v_iinc (z' := t + 1) (lv' := [(4, .int (iI (t + 1))), (3, .int (iI (t))), (2, .int (iI (hg F t))), (5, .int (iI (hg F t))), (1, .int (iI (p3 (F 0)))), (0, .ref (a (0)))]) C 3 dX4_heirs_72 rfl (by omega) (by decide) rfl ?_
          refine v_goto (tgt := 46) C dX4_heirs_75 (by decide) ?_
          refine v_sub (lv' := [(4, .int (iI (t + 1))), (3, .int (iI (t))), (2, .int (iI (hg F t))), (1, .int (iI (p3 (F 0)))), (0, .ref (a (0)))]) [0, 1, 2, 4, 5] rfl ?_
          exact ih46 (hg F t) t (t + 1) ⟨by omega, by omega, fun h => by omega, fun _ => by
        rw [show t + 1 - 1 = t by omega]
        by_cases h0 : t = 0
        · first | (subst h0; exact ⟨rfl, rfl⟩) | (exfalso; have := hI46.2.2.1 h0; omega)
        · have hq := hI46.2.2.2 (by omega)
          rw [ab_s (t := t) (by omega), ← hq.1]
          first | (rw [if_pos (by exact decide_eq_true (by omega))]; exact ⟨rfl, rfl⟩) | (rw [if_neg (by exact fun h => absurd (of_decide_eq_true h) (by omega))]; exact ⟨rfl, hq.2⟩)⟩ (by omega)
    · skip
      refine v_iload_n C 1 dX4_heirs_28 rfl ?_
      refine v_iconst C dX4_heirs_29 ?_
      refine v_imul C dX4_heirs_30 ?_
      refine v_istore_n (lv' := [(1, .int (iI ((p3 z) * 3))), (2, .int (iI (z))), (0, .ref (a (0)))]) C dX4_heirs_31 (by decide) rfl ?_
      refine v_iinc (z' := z + 1) (lv' := [(2, .int (iI (z + 1))), (1, .int (iI ((p3 z) * 3))), (0, .ref (a (0)))]) C 1 dX4_heirs_32 rfl (by omega) (by decide) rfl ?_
      refine v_goto (tgt := 17) C dX4_heirs_35 (by decide) ?_
      refine v_lv (congrArg (fun x9 => ([(2, .int (iI (z + 1))), (1, .int (iI x9)), (0, .ref (a (0)))] : List (Nat × Value))) (show ((p3 z) * 3) = (p3 (z + 1)) by first | rfl | (exact (p3_s (by omega)).symm))) ?_
      exact ih17 (z + 1) (by omega) (by omega)
  · skip
    refine v_bipush C dX4_heirs_10 (by decide) ?_
    exact v_ret_i C rfl dX4_heirs_12 ⟨(by repeat (first | rfl | rw [if_pos (by omega)] | rw [if_neg (by omega)])), (by repeat (first | rfl | rw [if_pos (by omega)] | rw [if_neg (by omega)]))⟩
