set_option maxRecDepth 100000 in
set_option maxHeartbeats 4000000 in
theorem c_X4_farms (l : Launch) (D : va_G) (yc : Nat → ClassId) (t1 t2 : Nat) (a : Int → Nat) (A : Nat → Prop) (g : Mm) (t : Int) (Dz : Int → Int) (ht : R32 t) (HC : CI g) (hz : ∀ j, 0 ≤ j → j < 98 → Dz j = 0) : Ci l yX4_farms wsX4_farms { frames := 6, cells := 0, slots := 0, locals := 138 } D yc t1 t2 A (cw a yc) [.ref (a (0)), .int (iI (t))] g (fun r9 g' => r9 = iI (if t < 0 ∨ 3 < t then -1 else if g (6 + (6 + t)) 1 < 0 then -3 else if (qB (fun x9 => g (16 + (6 + t)) x9) (g (6 + (6 + t)) 1) Dz).2.1 = 0 then -4 else (qB (fun x9 => g (16 + (6 + t)) x9) (g (6 + (6 + t)) 1) Dz).2.2 0) ∧ (if t < 0 ∨ 3 < t then g' = g else if g (6 + (6 + t)) 1 < 0 then g' = fnC g 1 else if (qB (fun x9 => g (16 + (6 + t)) x9) (g (6 + (6 + t)) 1) Dz).2.1 = 0 then CR g g' (qB (fun x9 => g (16 + (6 + t)) x9) (g (6 + (6 + t)) 1) Dz).2.2 (qB (fun x9 => g (16 + (6 + t)) x9) (g (6 + (6 + t)) 1) Dz).1 else FR g' 0 (qB (fun x9 => g (16 + (6 + t)) x9) (g (6 + (6 + t)) 1) Dz).2.2 ∧ (∀ k, 0 ≤ k → k < 3 → FR g' (1 + k) (fun _ => 0)) ∧ ∀ q, q < 26 → q ≠ 4 → g' q = g q)) := by
  refine start_i (cc := cX4_farms) (nL := 3) (ret := (some .int)) (own := RX4) (by decide +kernel) rfl rfl (Nat.le_of_ble_eq_true rfl) ?_
  intro p e s m9 below meth c9 C
  have wf15 : Cond.fieldLink RX4 15 (TX4 1).1 (TX4 1).2.1 (TX4 1).2.2.1 ∈ wsX4_farms := by decide +kernel
  have hinX4 : ∀ w ∈ u_ws RX4 TX4 10, w ∈ wsX4_farms := by decide +kernel
  have wf32 : Cond.fieldLink RX4 32 (TX4 4).1 (TX4 4).2.1 (TX4 4).2.2.1 ∈ wsX4_farms := by decide +kernel
  have wf21 : Cond.fieldLink RX4 21 (TX4 2).1 (TX4 2).2.1 (TX4 2).2.2.1 ∈ wsX4_farms := by decide +kernel
  have wf98 : Cond.fieldLink RX4 98 (TX2 0).1 (TX2 0).2.1 (TX2 0).2.2.1 ∈ wsX4_farms := by decide +kernel
  have hinX2 : ∀ w ∈ u_ws RX2 TX2 2, w ∈ wsX4_farms := by decide +kernel
  have wf108 : Cond.fieldLink RX4 108 (TX1 7).1 (TX1 7).2.1 (TX1 7).2.2.1 ∈ wsX4_farms := by decide +kernel
  have hinX1 : ∀ w ∈ u_ws RX1 TX1 11, w ∈ wsX4_farms := by decide +kernel
  have wf25 : Cond.fieldLink RX4 25 (TX4 3).1 (TX4 3).2.1 (TX4 3).2.2.1 ∈ wsX4_farms := by decide +kernel
  refine v_lv (lv' := [(0, .ref (a (0))), (1, .int (iI (t)))]) rfl ?_
  refine v_iload_n C 1 dX4_farms_0 rfl ?_
  refine v_iconst C dX4_farms_1 ?_
  refine v_cS_i C (As := [.int (iI (t)), .int (iI (4))]) (rest := []) (c_X4_isNone l D yc t1 t2 A (cw a yc) g t 4 (by omega) (by omega)) (va_cwS 2 C.hts gX4_farms_X4_isNone rfl rfl rfl (by decide +kernel) ⟨by decide, by decide⟩) rfl rfl (Nat.le_of_ble_eq_true rfl) dX4_farms_2 ?_
  intro r9 g9 h9
  rw [h9.1, h9.2]
  clear h9 g9 r9
  try dsimp only
  refine v_ifb_eq (tgt := 10) C dX4_farms_5 (by decide) (fun c5 => ?_) (fun c5 => ?_)
  · skip
    have hs := HC.ln (t := t) (by omega) (by omega)
    have hqr := qB_r (B := (fun x9 => g (16 + (6 + t)) x9)) (L := (g (6 + (6 + t)) 1)) (D := Dz) hs.2 (hz 0 (by decide) (by decide))
    refine v_aload_n C 0 dX4_farms_10 rfl ?_
    refine v_getf C (by omega) (by omega) ct_cow rfl 1 (by decide) wf15 hinX4 rfl dX4_farms_11 ?_
    refine v_iload_n C 1 dX4_farms_14 rfl ?_
    refine v_aaload (f := fun j => 6 + (6 + j)) C (by omega) (by omega) 4 rfl ct_textsA (by omega) (by omega) (by decide) dX4_farms_15 ?_
    refine v_cV_i C (As := []) (rest := []) (c_X3_isMissing l D yc t1 t2 a A g (6 + t) (by omega) (by omega)) (cwV 0 C.hts gX4_farms_X3_isMissing rfl rfl rfl (by decide +kernel) ⟨by decide, by decide⟩) (fun H hP => va_recv C.hK hP (ci := 3) (q0 := (6 + (6 + t) : Int).toNat) rfl (wo_is (by omega) (by omega) (ct_row (by omega) (by omega)))) rfl rfl (Nat.le_of_ble_eq_true rfl) dX4_farms_16 ?_
    intro r9 g9 h9
    rw [h9.1, h9.2]
    clear h9 g9 r9
    try dsimp only
    refine v_ifb_eq (tgt := 28) C dX4_farms_19 (by decide) (fun c19 => ?_) (fun c19 => ?_)
    · skip
      refine v_aload_n C 0 dX4_farms_28 rfl ?_
      refine v_getf C (by omega) (by omega) ct_cow rfl 4 (by decide) wf32 hinX4 rfl dX4_farms_29 ?_
      refine v_aload_n C 0 dX4_farms_32 rfl ?_
      refine v_getf C (by omega) (by omega) ct_cow rfl 1 (by decide) wf15 hinX4 rfl dX4_farms_33 ?_
      refine v_iload_n C 1 dX4_farms_36 rfl ?_
      refine v_aaload (f := fun j => 6 + (6 + j)) C (by omega) (by omega) 4 rfl ct_textsA (by omega) (by omega) (by decide) dX4_farms_37 ?_
      refine v_cV_i C (As := [.ref (a (6 + (6 + t)))]) (rest := []) (c_X2_read l D yc t1 t2 a A g (6 + t) Dz (by omega) (by omega) (fun j => HC.by (by omega) (by omega) j) ⟨hz 0 (by decide) (by decide), hz 1 (by decide) (by decide), hz 2 (by decide) (by decide), hz 3 (by decide) (by decide), hz 4 (by decide) (by decide), hz 5 (by decide) (by decide)⟩) (cwV 1 C.hts gX4_farms_X2_read rfl rfl rfl (by decide +kernel) ⟨by decide, by decide⟩) (fun H hP => va_recv C.hK hP (ci := 2) (q0 := (4 : Int).toNat) rfl (wo_is (by omega) (by omega) ct_reader)) rfl rfl (Nat.le_of_ble_eq_true rfl) dX4_farms_38 ?_
      rintro r38 g38 ⟨rfl, H38⟩
      try dsimp only
      refine v_bipush C dX4_farms_41 (by decide) ?_
      refine v_icmp_eq (tgt := 49) C dX4_farms_43 (by decide) (by first | omega | (split <;> omega)) (by first | omega | (split <;> omega)) (fun c43 => ?_) (fun c43 => ?_)
      · skip
        have hw1 : ¬ (qB (fun x9 => g (16 + (6 + t)) x9) (g (6 + (6 + t)) 1) Dz).2.1 = 0 := (fun z => by rw [if_pos z] at c43; omega)
        have hFI := qB_FI (B := (fun x9 => g (16 + (6 + t)) x9)) (L := (g (6 + (6 + t)) 1)) (D := Dz) hs.2 hz (by omega)
        refine v_aload_n C 0 dX4_farms_49 rfl ?_
        refine v_getf C (by omega) (by omega) ct_cow rfl 2 (by decide) wf21 hinX4 rfl dX4_farms_50 ?_
        refine v_st (st' := [.ref (a (26 + 0))]) rfl ?_
        refine v_aload_n C 0 dX4_farms_53 rfl ?_
        refine v_getf C (by omega) (by omega) ct_cow rfl 4 (by decide) wf32 hinX4 rfl dX4_farms_54 ?_
        refine v_getf C (by omega) (by omega) ct_reader rfl 0 (by decide) wf98 hinX2 rfl dX4_farms_57 ?_
        refine v_st (st' := [.ref (a (26 + 4)), .ref (a (26 + 0))]) rfl ?_
        refine v_cV_v C (As := [.ref (a (26 + 4))]) (rest := []) (c_X1_become l D yc t1 t2 a A g38 0 4 ((qB (fun x9 => g (16 + (6 + t)) x9) (g (6 + (6 + t)) 1) Dz).2.2) (by omega) (by omega) (by omega) H38.1.2 hFI.1) (cwV 1 C.hts gX4_farms_X1_become rfl rfl rfl (by decide +kernel) ⟨by decide, by decide⟩) (fun H hP => va_recv C.hK hP (ci := 1) (q0 := (26 + 0 : Int).toNat) rfl (wo_is (by omega) (by omega) (ct_farm (by omega) (by omega)))) rfl rfl (Nat.le_of_ble_eq_true rfl) dX4_farms_60 ?_
        rintro g60 ⟨H60, HO60⟩
        try dsimp only
        refine v_iconst C dX4_farms_63 ?_
        refine v_istore_n (lv' := [(2, .int (iI (0))), (0, .ref (a (0))), (1, .int (iI (t)))]) C dX4_farms_64 (by decide) rfl ?_
        refine v_g (g' := (clr g60 0)) (by rw [clr_0]) ?_
        refine v_lv (congrArg (fun x9 => ([(2, .int (iI x9)), (0, .ref (a (0))), (1, .int (iI (t)))] : List (Nat × Value))) (show (0) = (((0 : Int))) by first | rfl | omega | (simp; done))) ?_
        refine v_loop1 (fun (x : Int) => (3 - x).toNat) (fun (x : Int) => 0 ≤ x ∧ x ≤ 3) (fun (x : Int) => [(2, .int (iI (x))), (0, .ref (a (0))), (1, .int (iI (t)))]) (fun (x : Int) => (clr g60 x)) ?_ 0 (by omega)
        intro x hI65 ih65
        try dsimp only at ih65 ⊢
        refine v_iload_n C 0 dX4_farms_65 rfl ?_
        refine v_iconst C dX4_farms_66 ?_
        refine v_icmp_ge (tgt := 85) C dX4_farms_67 (by decide) (by omega) (by omega) (fun c67 => ?_) (fun c67 => ?_)
        · skip
          refine v_g (g' := (clr g60 3)) (by rw [show x = 3 by omega]) ?_
          refine v_aload_n C 1 dX4_farms_85 rfl ?_
          refine v_getf C (by omega) (by omega) ct_cow rfl 2 (by decide) wf21 hinX4 rfl dX4_farms_86 ?_
          refine v_st (st' := [.ref (a (26 + 0))]) rfl ?_
          refine v_getf C (by omega) (by omega) (ct_farm (by omega) (by omega)) rfl 7 (by decide) wf108 hinX1 rfl dX4_farms_89 ?_
          refine v_st (st' := [.int (iI ((qB (fun x9 => g (16 + (6 + t)) x9) (g (6 + (6 + t)) 1) Dz).2.2 0))]) (by rw [clr_o (by omega), H60.bc]) ?_
          exact v_ret_i C rfl dX4_farms_92 (by show _ ∧ _; rw [if_neg (show ¬ (t < 0 ∨ 3 < t) by omega), if_neg (show ¬ (t < 0 ∨ 3 < t) by omega), if_neg (show ¬ (g (6 + (6 + t)) 1 < 0) by omega), if_neg (show ¬ (g (6 + (6 + t)) 1 < 0) by omega), if_neg hw1, if_neg hw1]; exact ⟨rfl, FR_fr H60 (fun q h => clr_o (by omega)), fun k a c => Z_FR (fun j d e => by unfold clr; rw [if_pos (by omega)]), fun q a c => by rw [clr_o (by omega), HO60 q ⟨by omega, by omega, by omega, by omega, by omega, by omega⟩]; funext j; exact H38.2.2 q j ⟨by omega, by omega, by omega, by omega, by omega⟩⟩)
        · skip
          refine v_aload_n C 1 dX4_farms_70 rfl ?_
          refine v_getf C (by omega) (by omega) ct_cow rfl 3 (by decide) wf25 hinX4 rfl dX4_farms_71 ?_
          refine v_iload_n C 0 dX4_farms_74 rfl ?_
          refine v_aaload (f := fun j => 26 + (1 + j)) C (by omega) (by omega) 3 rfl ct_keptA (by omega) (by omega) (by decide) dX4_farms_75 ?_
          refine v_cV_v C (As := []) (rest := []) (c_X1_clear l D yc t1 t2 a A (clr g60 x) (1 + x) (by omega)) (cwV 0 C.hts gX4_farms_X1_clear rfl rfl rfl (by decide +kernel) ⟨by decide, by decide⟩) (fun H hP => va_recv C.hK hP (ci := 1) (q0 := (26 + (1 + x) : Int).toNat) rfl (wo_is (by omega) (by omega) (ct_farm (by omega) (by omega)))) rfl rfl (Nat.le_of_ble_eq_true rfl) dX4_farms_76 ?_
          intro g9 h9
          rw [h9]
          clear h9 g9
          try dsimp only
          refine v_iinc (z' := x + 1) (lv' := [(2, .int (iI (x + 1))), (0, .ref (a (0))), (1, .int (iI (t)))]) C 0 dX4_farms_79 rfl (by omega) (by decide) rfl ?_
          refine v_goto (tgt := 65) C dX4_farms_82 (by decide) ?_
          exact v_g (clr_s (by omega)) (ih65 (x + 1) (by omega) (by omega))
      · skip
        have hw0 : (qB (fun x9 => g (16 + (6 + t)) x9) (g (6 + (6 + t)) 1) Dz).2.1 = 0 := Classical.byContradiction (fun z => c43 (by rw [if_neg z]))
        refine v_bipush C dX4_farms_46 (by decide) ?_
        exact v_ret_i C rfl dX4_farms_48 (by show _ ∧ _; rw [if_neg (show ¬ (t < 0 ∨ 3 < t) by omega), if_neg (show ¬ (t < 0 ∨ 3 < t) by omega), if_neg (show ¬ (g (6 + (6 + t)) 1 < 0) by omega), if_neg (show ¬ (g (6 + (6 + t)) 1 < 0) by omega), if_pos hw0, if_pos hw0]; exact ⟨rfl, H38⟩)
    · skip
      refine v_aload_n C 0 dX4_farms_22 rfl ?_
      refine v_iconst C dX4_farms_23 ?_
      refine v_cV_i C (As := [.int (iI (1))]) (rest := []) (c_X4_refuse l D yc t1 t2 a A g 1 (by omega)) (cwV 1 C.hts gX4_farms_X4_refuse rfl rfl rfl (by decide +kernel) ⟨by decide, by decide⟩) (fun H hP => va_recv C.hK hP (ci := 4) (q0 := (0 : Int).toNat) rfl (wo_is (by omega) (by omega) ct_cow)) rfl rfl (Nat.le_of_ble_eq_true rfl) dX4_farms_24 ?_
      intro r9 g9 h9
      rw [h9.1, h9.2]
      clear h9 g9 r9
      try dsimp only
      exact v_ret_i C rfl dX4_farms_27 (by show _ ∧ _; rw [if_neg (show ¬ (t < 0 ∨ 3 < t) by omega), if_neg (show ¬ (t < 0 ∨ 3 < t) by omega), if_pos (show g (6 + (6 + t)) 1 < 0 by omega), if_pos (show g (6 + (6 + t)) 1 < 0 by omega)]; exact ⟨rfl, rfl⟩)
  · skip
    refine v_iconst C dX4_farms_8 ?_
    exact v_ret_i C rfl dX4_farms_9 (by show _ ∧ _; rw [if_pos (show t < 0 ∨ 3 < t by omega), if_pos (show t < 0 ∨ 3 < t by omega)]; exact ⟨rfl, rfl⟩)
