set_option maxRecDepth 100000 in
set_option maxHeartbeats 4000000 in
theorem c_X4_fault (l : Launch) (D : va_G) (yc : Nat → ClassId) (t1 t2 : Nat) (a : Int → Nat) (A : Nat → Prop) (g : Mm) (t : Int) (Dz : Int → Int) (ht : R32 t) (HC : CI g) (hz : Dz 0 = 0 ∧ Dz 1 = 0 ∧ Dz 2 = 0 ∧ Dz 3 = 0 ∧ Dz 4 = 0 ∧ Dz 5 = 0) : Ci l yX4_fault wsX4_fault { frames := 6, cells := 0, slots := 0, locals := 138 } D yc t1 t2 A (cw a yc) [.ref (a (0)), .int (iI (t))] g (fun r9 g' => r9 = iI (if t < 0 ∨ 3 < t then -1 else if g (6 + (6 + t)) 1 < 0 then -3 else if (qB (fun x9 => g (16 + (6 + t)) x9) (g (6 + (6 + t)) 1) Dz).2.1 = 0 then (qB (fun x9 => g (16 + (6 + t)) x9) (g (6 + (6 + t)) 1) Dz).1 else -9) ∧ (if t < 0 ∨ 3 < t then g' = g else if g (6 + (6 + t)) 1 < 0 then g' = fnC g 1 else CR g g' (qB (fun x9 => g (16 + (6 + t)) x9) (g (6 + (6 + t)) 1) Dz).2.2 (qB (fun x9 => g (16 + (6 + t)) x9) (g (6 + (6 + t)) 1) Dz).1)) := by
  refine start_i (cc := cX4_fault) (nL := 2) (ret := (some .int)) (own := RX4) (by decide +kernel) rfl rfl (Nat.le_of_ble_eq_true rfl) ?_
  intro p e s m9 below meth c9 C
  have wf15 : Cond.fieldLink RX4 15 (TX4 1).1 (TX4 1).2.1 (TX4 1).2.2.1 ∈ wsX4_fault := by decide +kernel
  have hinX4 : ∀ w ∈ u_ws RX4 TX4 10, w ∈ wsX4_fault := by decide +kernel
  have wf32 : Cond.fieldLink RX4 32 (TX4 4).1 (TX4 4).2.1 (TX4 4).2.2.1 ∈ wsX4_fault := by decide +kernel
  refine v_lv (lv' := [(0, .ref (a (0))), (1, .int (iI (t)))]) rfl ?_
  refine v_iload_n C 1 dX4_fault_0 rfl ?_
  refine v_iconst C dX4_fault_1 ?_
  refine v_cS_i C (As := [.int (iI (t)), .int (iI (4))]) (rest := []) (c_X4_isNone l D yc t1 t2 A (cw a yc) g t 4 (by omega) (by omega)) (va_cwS 2 C.hts gX4_fault_X4_isNone rfl rfl rfl (by decide +kernel) ⟨by decide, by decide⟩) rfl rfl (Nat.le_of_ble_eq_true rfl) dX4_fault_2 ?_
  intro r9 g9 h9
  rw [h9.1, h9.2]
  clear h9 g9 r9
  try dsimp only
  refine v_ifb_eq (tgt := 10) C dX4_fault_5 (by decide) (fun c5 => ?_) (fun c5 => ?_)
  · skip
    have hs := HC.ln (t := t) (by omega) (by omega)
    refine v_aload_n C 0 dX4_fault_10 rfl ?_
    refine v_getf C (by omega) (by omega) ct_cow rfl 1 (by decide) wf15 hinX4 rfl dX4_fault_11 ?_
    refine v_iload_n C 1 dX4_fault_14 rfl ?_
    refine v_aaload (f := fun j => 6 + (6 + j)) C (by omega) (by omega) 4 rfl ct_textsA (by omega) (by omega) (by decide) dX4_fault_15 ?_
    refine v_cV_i C (As := []) (rest := []) (c_X3_isMissing l D yc t1 t2 a A g (6 + t) (by omega) (by omega)) (cwV 0 C.hts gX4_fault_X3_isMissing rfl rfl rfl (by decide +kernel) ⟨by decide, by decide⟩) (fun H hP => va_recv C.hK hP (ci := 3) (q0 := (6 + (6 + t) : Int).toNat) rfl (wo_is (by omega) (by omega) (ct_row (by omega) (by omega)))) rfl rfl (Nat.le_of_ble_eq_true rfl) dX4_fault_16 ?_
    intro r9 g9 h9
    rw [h9.1, h9.2]
    clear h9 g9 r9
    try dsimp only
    refine v_ifb_eq (tgt := 28) C dX4_fault_19 (by decide) (fun c19 => ?_) (fun c19 => ?_)
    · skip
      refine v_aload_n C 0 dX4_fault_28 rfl ?_
      refine v_getf C (by omega) (by omega) ct_cow rfl 4 (by decide) wf32 hinX4 rfl dX4_fault_29 ?_
      refine v_aload_n C 0 dX4_fault_32 rfl ?_
      refine v_getf C (by omega) (by omega) ct_cow rfl 1 (by decide) wf15 hinX4 rfl dX4_fault_33 ?_
      refine v_iload_n C 1 dX4_fault_36 rfl ?_
      refine v_aaload (f := fun j => 6 + (6 + j)) C (by omega) (by omega) 4 rfl ct_textsA (by omega) (by omega) (by decide) dX4_fault_37 ?_
      refine v_cV_i C (As := [.ref (a (6 + (6 + t)))]) (rest := []) (c_X2_read l D yc t1 t2 a A g (6 + t) Dz (by omega) (by omega) (fun j => HC.by (by omega) (by omega) j) (by omega)) (cwV 1 C.hts gX4_fault_X2_read rfl rfl rfl (by decide +kernel) ⟨by decide, by decide⟩) (fun H hP => va_recv C.hK hP (ci := 2) (q0 := (4 : Int).toNat) rfl (wo_is (by omega) (by omega) ct_reader)) rfl rfl (Nat.le_of_ble_eq_true rfl) dX4_fault_38 ?_
      rintro r38 g38 ⟨rfl, H38⟩
      try dsimp only
      exact v_ret_i C rfl dX4_fault_41 (by show _ ∧ _; rw [if_neg (show ¬ (t < 0 ∨ 3 < t) by omega), if_neg (show ¬ (t < 0 ∨ 3 < t) by omega), if_neg (show ¬ (g (6 + (6 + t)) 1 < 0) by omega), if_neg (show ¬ (g (6 + (6 + t)) 1 < 0) by omega)]; exact ⟨rfl, H38⟩)
    · skip
      refine v_aload_n C 0 dX4_fault_22 rfl ?_
      refine v_iconst C dX4_fault_23 ?_
      refine v_cV_i C (As := [.int (iI (1))]) (rest := []) (c_X4_refuse l D yc t1 t2 a A g 1 (by omega)) (cwV 1 C.hts gX4_fault_X4_refuse rfl rfl rfl (by decide +kernel) ⟨by decide, by decide⟩) (fun H hP => va_recv C.hK hP (ci := 4) (q0 := (0 : Int).toNat) rfl (wo_is (by omega) (by omega) ct_cow)) rfl rfl (Nat.le_of_ble_eq_true rfl) dX4_fault_24 ?_
      intro r9 g9 h9
      rw [h9.1, h9.2]
      clear h9 g9 r9
      try dsimp only
      exact v_ret_i C rfl dX4_fault_27 (by show _ ∧ _; rw [if_neg (show ¬ (t < 0 ∨ 3 < t) by omega), if_neg (show ¬ (t < 0 ∨ 3 < t) by omega), if_pos (show g (6 + (6 + t)) 1 < 0 by omega), if_pos (show g (6 + (6 + t)) 1 < 0 by omega)]; exact ⟨rfl, rfl⟩)
  · skip
    refine v_iconst C dX4_fault_8 ?_
    exact v_ret_i C rfl dX4_fault_9 (by show _ ∧ _; rw [if_pos (show t < 0 ∨ 3 < t by omega), if_pos (show t < 0 ∨ 3 < t by omega)]; exact ⟨rfl, rfl⟩)

set_option maxRecDepth 100000 in
set_option maxHeartbeats 4000000 in
theorem c_X4_keep (l : Launch) (D : va_G) (yc : Nat → ClassId) (t1 t2 : Nat) (a : Int → Nat) (A : Nat → Prop) (g : Mm) (k : Int) (F : Int → Int) (hk : R32 k) (HF : FR g 0 F) (HI : FI F) : Ci l yX4_keep wsX4_keep { frames := 3, cells := 0, slots := 0, locals := 70 } D yc t1 t2 A (cw a yc) [.ref (a (0)), .int (iI (k))] g (fun r9 g' => r9 = iI (if k < 0 ∨ 2 < k then -1 else if F 0 = 0 then -4 else F 4) ∧ (if k < 0 ∨ 2 < k then g' = g else if F 0 = 0 then g' = g else FR g' (1 + k) F ∧ ∀ q, oF (1 + k) q → g' q = g q)) := by
  refine start_i (cc := cX4_keep) (nL := 2) (ret := (some .int)) (own := RX4) (by decide +kernel) rfl rfl (Nat.le_of_ble_eq_true rfl) ?_
  intro p e s m9 below meth c9 C
  have wf21 : Cond.fieldLink RX4 21 (TX4 2).1 (TX4 2).2.1 (TX4 2).2.2.1 ∈ wsX4_keep := by decide +kernel
  have hinX4 : ∀ w ∈ u_ws RX4 TX4 10, w ∈ wsX4_keep := by decide +kernel
  have wf25 : Cond.fieldLink RX4 25 (TX4 3).1 (TX4 3).2.1 (TX4 3).2.2.1 ∈ wsX4_keep := by decide +kernel
  have wf151 : Cond.fieldLink RX4 151 (TX1 8).1 (TX1 8).2.1 (TX1 8).2.2.1 ∈ wsX4_keep := by decide +kernel
  have hinX1 : ∀ w ∈ u_ws RX1 TX1 11, w ∈ wsX4_keep := by decide +kernel
  have hn := HI.n
  refine v_lv (lv' := [(0, .ref (a (0))), (1, .int (iI (k)))]) rfl ?_
  refine v_iload_n C 1 dX4_keep_0 rfl ?_
  refine v_iconst C dX4_keep_1 ?_
  refine v_cS_i C (As := [.int (iI (k)), .int (iI (3))]) (rest := []) (c_X4_isNone l D yc t1 t2 A (cw a yc) g k 3 (by omega) (by omega)) (va_cwS 2 C.hts gX4_keep_X4_isNone rfl rfl rfl (by decide +kernel) ⟨by decide, by decide⟩) rfl rfl (Nat.le_of_ble_eq_true rfl) dX4_keep_2 ?_
  intro r9 g9 h9
  rw [h9.1, h9.2]
  clear h9 g9 r9
  try dsimp only
  refine v_ifb_eq (tgt := 10) C dX4_keep_5 (by decide) (fun c5 => ?_) (fun c5 => ?_)
  · skip
    refine v_aload_n C 0 dX4_keep_10 rfl ?_
    refine v_getf C (by omega) (by omega) ct_cow rfl 2 (by decide) wf21 hinX4 rfl dX4_keep_11 ?_
    refine v_st (st' := [.ref (a (26 + 0))]) rfl ?_
    refine v_cV_i C (As := []) (rest := []) (c_X1_isMissing l D yc t1 t2 a A g 0 F (by omega) HF HI) (cwV 0 C.hts gX4_keep_X1_isMissing rfl rfl rfl (by decide +kernel) ⟨by decide, by decide⟩) (fun H hP => va_recv C.hK hP (ci := 1) (q0 := (26 + 0 : Int).toNat) rfl (wo_is (by omega) (by omega) (ct_farm (by omega) (by omega)))) rfl rfl (Nat.le_of_ble_eq_true rfl) dX4_keep_14 ?_
    intro r9 g9 h9
    rw [h9.1, h9.2]
    clear h9 g9 r9
    try dsimp only
    refine v_ifb_eq (tgt := 23) C dX4_keep_17 (by decide) (fun c17 => ?_) (fun c17 => ?_)
    · skip
      refine v_aload_n C 0 dX4_keep_23 rfl ?_
      refine v_getf C (by omega) (by omega) ct_cow rfl 3 (by decide) wf25 hinX4 rfl dX4_keep_24 ?_
      refine v_iload_n C 1 dX4_keep_27 rfl ?_
      refine v_aaload (f := fun j => 26 + (1 + j)) C (by omega) (by omega) 3 rfl ct_keptA (by omega) (by omega) (by decide) dX4_keep_28 ?_
      refine v_aload_n C 0 dX4_keep_29 rfl ?_
      refine v_getf C (by omega) (by omega) ct_cow rfl 2 (by decide) wf21 hinX4 rfl dX4_keep_30 ?_
      refine v_st (st' := [.ref (a (26 + 0)), .ref (a (26 + (1 + k)))]) rfl ?_
      refine v_cV_v C (As := [.ref (a (26 + 0))]) (rest := []) (c_X1_become l D yc t1 t2 a A g (1 + k) 0 F (by omega) (by omega) (by omega) HF HI) (cwV 1 C.hts gX4_keep_X1_become rfl rfl rfl (by decide +kernel) ⟨by decide, by decide⟩) (fun H hP => va_recv C.hK hP (ci := 1) (q0 := (26 + (1 + k) : Int).toNat) rfl (wo_is (by omega) (by omega) (ct_farm (by omega) (by omega)))) rfl rfl (Nat.le_of_ble_eq_true rfl) dX4_keep_33 ?_
      rintro g33 ⟨H33, HO33⟩
      try dsimp only
      refine v_aload_n C 0 dX4_keep_36 rfl ?_
      refine v_getf C (by omega) (by omega) ct_cow rfl 2 (by decide) wf21 hinX4 rfl dX4_keep_37 ?_
      refine v_st (st' := [.ref (a (26 + 0))]) rfl ?_
      refine v_getf C (by omega) (by omega) (ct_farm (by omega) (by omega)) rfl 8 (by decide) wf151 hinX1 rfl dX4_keep_40 ?_
      refine v_st (st' := [.int (iI (F 4))]) (by rw [HO33 _ ⟨by omega, by omega, by omega, by omega, by omega, by omega⟩, HF.dc]) ?_
      exact v_ret_i C rfl dX4_keep_43 (by show _ ∧ _; rw [if_neg (show ¬ (k < 0 ∨ 2 < k) by omega), if_neg (show ¬ (k < 0 ∨ 2 < k) by omega), if_neg (show ¬ (F 0 = 0) by omega), if_neg (show ¬ (F 0 = 0) by omega)]; exact ⟨rfl, H33, HO33⟩)
    · skip
      refine v_bipush C dX4_keep_20 (by decide) ?_
      exact v_ret_i C rfl dX4_keep_22 (by show _ ∧ _; rw [if_neg (show ¬ (k < 0 ∨ 2 < k) by omega), if_neg (show ¬ (k < 0 ∨ 2 < k) by omega), if_pos (show F 0 = 0 by omega), if_pos (show F 0 = 0 by omega)]; exact ⟨rfl, rfl⟩)
  · skip
    refine v_iconst C dX4_keep_8 ?_
    exact v_ret_i C rfl dX4_keep_9 (by show _ ∧ _; rw [if_pos (show k < 0 ∨ 2 < k by omega), if_pos (show k < 0 ∨ 2 < k by omega)]; exact ⟨rfl, rfl⟩)

set_option maxRecDepth 100000 in
set_option maxHeartbeats 4000000 in
theorem c_X4_on (l : Launch) (D : va_G) (yc : Nat → ClassId) (t1 t2 : Nat) (a : Int → Nat) (A : Nat → Prop) (g : Mm) (k : Int) (G : Int → Int) (hk : R32 k) (HG : 0 ≤ k → k < 3 → FR g (1 + k) G) (HJ : FI G) : Ci l yX4_on wsX4_on { frames := 3, cells := 0, slots := 0, locals := 70 } D yc t1 t2 A (cw a yc) [.ref (a (0)), .int (iI (k))] g (fun r9 g' => r9 = iI (if k < 0 ∨ 2 < k then -1 else if G 0 = 0 then -3 else G 4) ∧ (if k < 0 ∨ 2 < k then g' = g else if G 0 = 0 then g' = fnC g 1 else FR g' 0 G ∧ ∀ q, oF 0 q → g' q = g q)) := by
  refine start_i (cc := cX4_on) (nL := 2) (ret := (some .int)) (own := RX4) (by decide +kernel) rfl rfl (Nat.le_of_ble_eq_true rfl) ?_
  intro p e s m9 below meth c9 C
  have wf25 : Cond.fieldLink RX4 25 (TX4 3).1 (TX4 3).2.1 (TX4 3).2.2.1 ∈ wsX4_on := by decide +kernel
  have hinX4 : ∀ w ∈ u_ws RX4 TX4 10, w ∈ wsX4_on := by decide +kernel
  have wf21 : Cond.fieldLink RX4 21 (TX4 2).1 (TX4 2).2.1 (TX4 2).2.2.1 ∈ wsX4_on := by decide +kernel
  have wf151 : Cond.fieldLink RX4 151 (TX1 8).1 (TX1 8).2.1 (TX1 8).2.2.1 ∈ wsX4_on := by decide +kernel
  have hinX1 : ∀ w ∈ u_ws RX1 TX1 11, w ∈ wsX4_on := by decide +kernel
  have hn := HJ.n
  refine v_lv (lv' := [(0, .ref (a (0))), (1, .int (iI (k)))]) rfl ?_
  refine v_iload_n C 1 dX4_on_0 rfl ?_
  refine v_iconst C dX4_on_1 ?_
  refine v_cS_i C (As := [.int (iI (k)), .int (iI (3))]) (rest := []) (c_X4_isNone l D yc t1 t2 A (cw a yc) g k 3 (by omega) (by omega)) (va_cwS 2 C.hts gX4_on_X4_isNone rfl rfl rfl (by decide +kernel) ⟨by decide, by decide⟩) rfl rfl (Nat.le_of_ble_eq_true rfl) dX4_on_2 ?_
  intro r9 g9 h9
  rw [h9.1, h9.2]
  clear h9 g9 r9
  try dsimp only
  refine v_ifb_eq (tgt := 10) C dX4_on_5 (by decide) (fun c5 => ?_) (fun c5 => ?_)
  · skip
    have HK := HG (by omega) (by omega)
    refine v_aload_n C 0 dX4_on_10 rfl ?_
    refine v_getf C (by omega) (by omega) ct_cow rfl 3 (by decide) wf25 hinX4 rfl dX4_on_11 ?_
    refine v_iload_n C 1 dX4_on_14 rfl ?_
    refine v_aaload (f := fun j => 26 + (1 + j)) C (by omega) (by omega) 3 rfl ct_keptA (by omega) (by omega) (by decide) dX4_on_15 ?_
    refine v_cV_i C (As := []) (rest := []) (c_X1_isMissing l D yc t1 t2 a A g (1 + k) G (by omega) HK HJ) (cwV 0 C.hts gX4_on_X1_isMissing rfl rfl rfl (by decide +kernel) ⟨by decide, by decide⟩) (fun H hP => va_recv C.hK hP (ci := 1) (q0 := (26 + (1 + k) : Int).toNat) rfl (wo_is (by omega) (by omega) (ct_farm (by omega) (by omega)))) rfl rfl (Nat.le_of_ble_eq_true rfl) dX4_on_16 ?_
    intro r9 g9 h9
    rw [h9.1, h9.2]
    clear h9 g9 r9
    try dsimp only
    refine v_ifb_eq (tgt := 28) C dX4_on_19 (by decide) (fun c19 => ?_) (fun c19 => ?_)
    · skip
      refine v_aload_n C 0 dX4_on_28 rfl ?_
      refine v_getf C (by omega) (by omega) ct_cow rfl 2 (by decide) wf21 hinX4 rfl dX4_on_29 ?_
      refine v_st (st' := [.ref (a (26 + 0))]) rfl ?_
      refine v_aload_n C 0 dX4_on_32 rfl ?_
      refine v_getf C (by omega) (by omega) ct_cow rfl 3 (by decide) wf25 hinX4 rfl dX4_on_33 ?_
      refine v_iload_n C 1 dX4_on_36 rfl ?_
      refine v_aaload (f := fun j => 26 + (1 + j)) C (by omega) (by omega) 3 rfl ct_keptA (by omega) (by omega) (by decide) dX4_on_37 ?_
      refine v_cV_v C (As := [.ref (a (26 + (1 + k)))]) (rest := []) (c_X1_become l D yc t1 t2 a A g 0 (1 + k) G (by omega) (by omega) (by omega) HK HJ) (cwV 1 C.hts gX4_on_X1_become rfl rfl rfl (by decide +kernel) ⟨by decide, by decide⟩) (fun H hP => va_recv C.hK hP (ci := 1) (q0 := (26 + 0 : Int).toNat) rfl (wo_is (by omega) (by omega) (ct_farm (by omega) (by omega)))) rfl rfl (Nat.le_of_ble_eq_true rfl) dX4_on_38 ?_
      rintro g38 ⟨H38, HO38⟩
      try dsimp only
      refine v_aload_n C 0 dX4_on_41 rfl ?_
      refine v_getf C (by omega) (by omega) ct_cow rfl 2 (by decide) wf21 hinX4 rfl dX4_on_42 ?_
      refine v_st (st' := [.ref (a (26 + 0))]) rfl ?_
      refine v_getf C (by omega) (by omega) (ct_farm (by omega) (by omega)) rfl 8 (by decide) wf151 hinX1 rfl dX4_on_45 ?_
      refine v_st (st' := [.int (iI (G 4))]) (by rw [H38.dc]) ?_
      exact v_ret_i C rfl dX4_on_48 (by show _ ∧ _; rw [if_neg (show ¬ (k < 0 ∨ 2 < k) by omega), if_neg (show ¬ (k < 0 ∨ 2 < k) by omega), if_neg (show ¬ (G 0 = 0) by omega), if_neg (show ¬ (G 0 = 0) by omega)]; exact ⟨rfl, H38, HO38⟩)
    · skip
      refine v_aload_n C 0 dX4_on_22 rfl ?_
      refine v_iconst C dX4_on_23 ?_
      refine v_cV_i C (As := [.int (iI (1))]) (rest := []) (c_X4_refuse l D yc t1 t2 a A g 1 (by omega)) (cwV 1 C.hts gX4_on_X4_refuse rfl rfl rfl (by decide +kernel) ⟨by decide, by decide⟩) (fun H hP => va_recv C.hK hP (ci := 4) (q0 := (0 : Int).toNat) rfl (wo_is (by omega) (by omega) ct_cow)) rfl rfl (Nat.le_of_ble_eq_true rfl) dX4_on_24 ?_
      intro r9 g9 h9
      rw [h9.1, h9.2]
      clear h9 g9 r9
      try dsimp only
      exact v_ret_i C rfl dX4_on_27 (by show _ ∧ _; rw [if_neg (show ¬ (k < 0 ∨ 2 < k) by omega), if_neg (show ¬ (k < 0 ∨ 2 < k) by omega), if_pos (show G 0 = 0 by omega), if_pos (show G 0 = 0 by omega)]; exact ⟨rfl, rfl⟩)
  · skip
    refine v_iconst C dX4_on_8 ?_
    exact v_ret_i C rfl dX4_on_9 (by show _ ∧ _; rw [if_pos (show k < 0 ∨ 2 < k by omega), if_pos (show k < 0 ∨ 2 < k by omega)]; exact ⟨rfl, rfl⟩)
