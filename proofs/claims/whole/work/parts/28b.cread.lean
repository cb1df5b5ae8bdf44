set_option maxRecDepth 100000 in
set_option maxHeartbeats 4000000 in
theorem c_X2_signHere (l : Launch) (D : va_G) (yc : Nat → ClassId) (t1 t2 : Nat) (a : Int → Nat) (A : Nat → Prop) (g : Mm) (r : Int) (hr : 6 ≤ r ∧ r < 10) (hL : -1 ≤ g (6 + r) 1 ∧ g (6 + r) 1 ≤ 60) (HB : ∀ j, -128 ≤ g (16 + r) j ∧ g (16 + r) j ≤ 127) (hp : 0 ≤ g 4 1 ∧ g 4 1 ≤ 60) : Ci l yX2_signHere wsX2_signHere { frames := 1, cells := 0, slots := 0, locals := 21 } D yc t1 t2 A (cw a yc) [.ref (a (4)), .ref (a (6 + r))] g (fun r9 g' => r9 = (iI (sg (fun x9 => g (16 + r) x9) (g (6 + r) 1) (g 4 1))) ∧ g' = g) := by
  refine start_i (cc := cX2_signHere) (nL := 2) (ret := (some .int)) (own := RX2) (by decide +kernel) rfl rfl (Nat.le_of_ble_eq_true rfl) ?_
  intro p e s m9 below meth c9 C
  have wf21 : Cond.fieldLink RX2 21 (TX2 1).1 (TX2 1).2.1 (TX2 1).2.2.1 ∈ wsX2_signHere := by decide +kernel
  have hinX2 : ∀ w ∈ u_ws RX2 TX2 2, w ∈ wsX2_signHere := by decide +kernel
  have wf48 : Cond.fieldLink RX2 48 (TX3 0).1 (TX3 0).2.1 (TX3 0).2.2.1 ∈ wsX2_signHere := by decide +kernel
  have hinX3 : ∀ w ∈ u_ws RX3 TX3 2, w ∈ wsX2_signHere := by decide +kernel
  have hrl : ((rlen r : Nat) : Int) = 60 := by unfold rlen; rw [if_neg (by omega)]; rfl
  refine v_lv (lv' := [(0, .ref (a (4))), (1, .ref (a (6 + r)))]) rfl ?_
  refine v_aload_n C 1 dX2_signHere_0 rfl ?_
  refine v_aload_n C 0 dX2_signHere_1 rfl ?_
  refine v_getf C (by omega) (by omega) ct_reader rfl 1 (by decide) wf21 hinX2 rfl dX2_signHere_2 ?_
  refine v_cV_i C (As := [.int (iI (g (4) (1)))]) (rest := []) (c_X3_has l D yc t1 t2 a A g r (g (4) (1)) (by omega) (by omega) (by omega)) (cwV 1 C.hts gX2_signHere_X3_has rfl rfl rfl (by decide +kernel) ⟨by decide, by decide⟩) (fun H hP => va_recv C.hK hP (ci := 3) (q0 := (6 + r : Int).toNat) rfl (wo_is (by omega) (by omega) (ct_row (by omega) (by omega)))) rfl rfl (Nat.le_of_ble_eq_true rfl) dX2_signHere_5 ?_
  intro r9 g9 h9
  rw [h9.1, h9.2]
  clear h9 g9 r9
  try dsimp only
  refine v_cut1 26 (fun (v26 : Int) => v26 = sg (fun x9 => g (16 + r) x9) (g (6 + r) 1) (g 4 1)) (fun (v26 : Int) => [(0, .ref (a (4))), (1, .ref (a (6 + r)))]) (fun (v26 : Int) => [.int (iI (v26))]) (fun (v26 : Int) => g) ?_ ?_
  · intro v26 hj26
    try dsimp only
    exact v_ret_i C rfl dX2_signHere_26 ⟨(by rw [hj26]), rfl⟩
  · intro jn26
    try dsimp only at jn26
    refine v_ifb_eq (tgt := 23) C dX2_signHere_8 (by decide) (fun c8 => ?_) (fun c8 => ?_)
    · skip
      refine v_sipush C dX2_signHere_23 (by decide) ?_
      exact jn26 256 (by unfold sg; first | rw [if_pos (by omega)] | rw [if_neg (by omega)])
    · skip
      refine v_aload_n C 1 dX2_signHere_11 rfl ?_
      refine v_getf C (by omega) (by omega) (ct_row (by omega) (by omega)) rfl 0 (by decide) wf48 hinX3 rfl dX2_signHere_12 ?_
      refine v_aload_n C 0 dX2_signHere_15 rfl ?_
      refine v_getf C (by omega) (by omega) ct_reader rfl 1 (by decide) wf21 hinX2 rfl dX2_signHere_16 ?_
      refine v_iaload C (by omega) (by omega) (ct_places (by omega) (by omega)) (by omega) (by omega) (by unfold rlen; split <;> decide) dX2_signHere_19 ?_
      refine v_goto (tgt := 26) C dX2_signHere_20 (by decide) ?_
      exact jn26 (g (16 + r) (g (4) (1))) (by unfold sg; first | rw [if_pos (by omega)] | rw [if_neg (by omega)])

set_option maxRecDepth 100000 in
set_option maxHeartbeats 4000000 in
theorem c_X2_kindOfLetter (l : Launch) (D : va_G) (yc : Nat → ClassId) (t1 t2 : Nat) (A : Nat → Prop) {M : Type} (ww : M → va_W) (g : M) (x : Int) (hx : R32 x) : Ci l yX2_kindOfLetter wsX2_kindOfLetter { frames := 0, cells := 0, slots := 0, locals := 0 } D yc t1 t2 A ww [.int (iI (x))] g (fun r9 g' => r9 = (iI (kd x)) ∧ g' = g) := by
  refine start_i (cc := cX2_kindOfLetter) (nL := 2) (ret := (some .int)) (own := RX2) (by decide +kernel) rfl rfl (Nat.le_of_ble_eq_true rfl) ?_
  intro p e s m9 below meth c9 C
  refine v_lv (lv' := [(0, .int (iI (x)))]) rfl ?_
  refine v_iconst C dX2_kindOfLetter_0 ?_
  refine v_istore_n (lv' := [(1, .int (iI (0))), (0, .int (iI (x)))]) C dX2_kindOfLetter_1 (by decide) rfl ?_
  refine v_lv (congrArg (fun x9 => ([(1, .int (iI x9)), (0, .int (iI (x)))] : List (Nat × Value))) (show (0) = (((0 : Int))) by first | rfl | omega | (simp; done))) ?_
  refine v_loop1 (fun (t : Int) => (6 - t).toNat) (fun (t : Int) => 0 ≤ t ∧ t ≤ 6 ∧ (0 < t → ¬ x = 99) ∧ (1 < t → ¬ x = 100) ∧ (2 < t → ¬ x = 121) ∧ (3 < t → ¬ x = 117) ∧ (4 < t → ¬ x = 104) ∧ (5 < t → ¬ x = 120)) (fun (t : Int) => [(1, .int (iI (t))), (0, .int (iI (x)))]) (fun (t : Int) => g) ?_ 0 (by omega)
  intro t hI2 ih2
  try dsimp only at ih2 ⊢
  refine v_iload_n C 0 dX2_kindOfLetter_2 rfl ?_
  refine v_gs2 C rfl dX2_kindOfLetter_3 ?_
  refine v_tl2 C dX2_kindOfLetter_6 ?_
  refine v_icmp_ge (tgt := 27) C dX2_kindOfLetter_7 (by decide) (by omega) (by omega) (fun c7 => ?_) (fun c7 => ?_)
  · skip
    refine v_bipush C dX2_kindOfLetter_27 (by decide) ?_
    exact v_ret_i C rfl dX2_kindOfLetter_29 ⟨(by unfold kd; repeat rw [if_neg (by omega)]), rfl⟩
  · skip
    refine v_gs2 C rfl dX2_kindOfLetter_10 ?_
    refine v_iload_n C 0 dX2_kindOfLetter_13 rfl ?_
    refine v_ta2 C (by omega) (by omega) dX2_kindOfLetter_14 ?_
    refine v_iload_n C 1 dX2_kindOfLetter_15 rfl ?_
    have ht6 := (show t = 0 ∨ t = 1 ∨ t = 2 ∨ t = 3 ∨ t = 4 ∨ t = 5 by omega)
    refine v_icmp_ne (tgt := 21) C dX2_kindOfLetter_16 (by decide) (by first | omega | rcases ht6 with rfl | rfl | rfl | rfl | rfl | rfl <;> decide) (by first | omega | rcases ht6 with rfl | rfl | rfl | rfl | rfl | rfl <;> decide) (fun c16 => ?_) (fun c16 => ?_)
    · skip
      refine v_iinc (z' := t + 1) (lv' := [(1, .int (iI (t + 1))), (0, .int (iI (x)))]) C 0 dX2_kindOfLetter_21 rfl (by omega) (by decide) rfl ?_
      refine v_goto (tgt := 2) C dX2_kindOfLetter_24 (by decide) ?_
      exact ih2 (t + 1) (by rcases ht6 with rfl | rfl | rfl | rfl | rfl | rfl <;> simp at c16 <;> omega) (by omega)
    · skip
      refine v_iload_n C 0 dX2_kindOfLetter_19 rfl ?_
      exact v_ret_i C rfl dX2_kindOfLetter_20 ⟨(by rcases ht6 with rfl | rfl | rfl | rfl | rfl | rfl <;> simp at c16 <;> subst c16 <;> rfl), rfl⟩

set_option maxRecDepth 100000 in
set_option maxHeartbeats 4000000 in
theorem c_X2_skipBlanks (l : Launch) (D : va_G) (yc : Nat → ClassId) (t1 t2 : Nat) (a : Int → Nat) (A : Nat → Prop) (g : Mm) (r : Int) (hr : 6 ≤ r ∧ r < 10) (hL : -1 ≤ g (6 + r) 1 ∧ g (6 + r) 1 ≤ 60) (HB : ∀ j, -128 ≤ g (16 + r) j ∧ g (16 + r) j ≤ 127) (hp : 0 ≤ g 4 1 ∧ g 4 1 ≤ 60) : Cv l yX2_skipBlanks wsX2_skipBlanks { frames := 0, cells := 0, slots := 0, locals := 0 } D yc t1 t2 A (cw a yc) [.ref (a (4)), .ref (a (6 + r))] g (fun g' => g' = (mu g 4 1 (sk (fun x9 => g (16 + r) x9) (g (6 + r) 1) (g 4 1)))) := by
  refine start_v (cc := cX2_skipBlanks) (nL := 2) (ret := none) (own := RX2) (by decide +kernel) rfl rfl (Nat.le_of_ble_eq_true rfl) ?_
  intro p e s m9 below meth c9 C
  have wf21 : Cond.fieldLink RX2 21 (TX2 1).1 (TX2 1).2.1 (TX2 1).2.2.1 ∈ wsX2_skipBlanks := by decide +kernel
  have hinX2 : ∀ w ∈ u_ws RX2 TX2 2, w ∈ wsX2_skipBlanks := by decide +kernel
  have wf43 : Cond.fieldLink RX2 43 (TX3 1).1 (TX3 1).2.1 (TX3 1).2.2.1 ∈ wsX2_skipBlanks := by decide +kernel
  have hinX3 : ∀ w ∈ u_ws RX3 TX3 2, w ∈ wsX2_skipBlanks := by decide +kernel
  have wf48 : Cond.fieldLink RX2 48 (TX3 0).1 (TX3 0).2.1 (TX3 0).2.2.1 ∈ wsX2_skipBlanks := by decide +kernel
  have hrl : ((rlen r : Nat) : Int) = 60 := by unfold rlen; rw [if_neg (by omega)]; rfl
  have hsr := sk_r (fun x9 => g (16 + r) x9) (L := g (6 + r) 1) (p := g 4 1) hL.2 hp.2
  refine v_lv (lv' := [(0, .ref (a (4))), (1, .ref (a (6 + r)))]) rfl ?_
  refine v_g (g' := (mu g 4 1 (g 4 1))) (mu_self g 4 1).symm ?_
  refine v_loop1 (fun (x : Int) => (60 - x).toNat) (fun (x : Int) => 0 ≤ x ∧ x ≤ 60 ∧ sk (fun x9 => g (16 + r) x9) (g (6 + r) 1) x = sk (fun x9 => g (16 + r) x9) (g (6 + r) 1) (g 4 1)) (fun (x : Int) => [(0, .ref (a (4))), (1, .ref (a (6 + r)))]) (fun (x : Int) => (mu g 4 1 x)) ?_ (g 4 1) ⟨by omega, by omega, rfl⟩
  intro x hI0 ih0
  try dsimp only at ih0 ⊢
  refine v_aload_n C 0 dX2_skipBlanks_0 rfl ?_
  refine v_getf C (by omega) (by omega) ct_reader rfl 1 (by decide) wf21 hinX2 rfl dX2_skipBlanks_1 ?_
  refine v_st (st' := [.int (iI (x))]) (by rw [mu_at]) ?_
  refine v_aload_n C 1 dX2_skipBlanks_4 rfl ?_
  refine v_getf C (by omega) (by omega) (ct_row (by omega) (by omega)) rfl 1 (by decide) wf43 hinX3 rfl dX2_skipBlanks_5 ?_
  refine v_st (st' := [.int (iI (g (6 + r) 1)), .int (iI (x))]) (by rw [mu_ne (by omega)]) ?_
  refine v_icmp_ge (tgt := 38) C dX2_skipBlanks_8 (by decide) (by omega) (by omega) (fun c8 => ?_) (fun c8 => ?_)
  · skip
    exact v_ret_v C rfl dX2_skipBlanks_38 (by rw [← hI0.2.2, sk_n]; unfold lk; first | (rw [if_neg (by omega)]; decide) | (rw [if_pos (by omega)]; exact c22))
  · skip
    refine v_aload_n C 1 dX2_skipBlanks_11 rfl ?_
    refine v_getf C (by omega) (by omega) (ct_row (by omega) (by omega)) rfl 0 (by decide) wf48 hinX3 rfl dX2_skipBlanks_12 ?_
    refine v_aload_n C 0 dX2_skipBlanks_15 rfl ?_
    refine v_getf C (by omega) (by omega) ct_reader rfl 1 (by decide) wf21 hinX2 rfl dX2_skipBlanks_16 ?_
    refine v_st (st' := [.int (iI (x)), .ref (a (16 + r))]) (by rw [mu_at]) ?_
    refine v_iaload C (by omega) (by omega) (ct_places (by omega) (by omega)) (by omega) (by omega) (by unfold rlen; split <;> decide) dX2_skipBlanks_19 ?_
    refine v_st (st' := [.int (iI (g (16 + r) x))]) (by rw [mu_ne (by omega)]) ?_
    have hbx := HB x
    refine v_bipush C dX2_skipBlanks_20 (by decide) ?_
    refine v_icmp_ne (tgt := 38) C dX2_skipBlanks_22 (by decide) (by omega) (by omega) (fun c22 => ?_) (fun c22 => ?_)
    · skip
      exact v_ret_v C rfl dX2_skipBlanks_38 (by rw [← hI0.2.2, sk_n]; unfold lk; first | (rw [if_neg (by omega)]; decide) | (rw [if_pos (by omega)]; exact c22))
    · skip
      refine v_aload_n C 0 dX2_skipBlanks_25 rfl ?_
      refine v_dup C dX2_skipBlanks_26 rfl ?_
      refine v_getf C (by omega) (by omega) ct_reader rfl 1 (by decide) wf21 hinX2 rfl dX2_skipBlanks_27 ?_
      refine v_st (st' := [.int (iI (x)), .ref (a (4))]) (by rw [mu_at]) ?_
      refine v_iconst C dX2_skipBlanks_30 ?_
      refine v_iadd C dX2_skipBlanks_31 ?_
      refine v_puti C (cta_L a yc) (by omega) (by omega) ct_reader rfl 1 (by decide) wf21 hinX2 tyX2 tyX2_ok nmX2 rfl (by decide +kernel) (by simp) cs_reader_1 dX2_skipBlanks_32 ?_
      refine v_g (g' := (mu (mu g 4 1 x) (4) (1) (x + 1))) rfl ?_
      refine v_goto (tgt := 0) C dX2_skipBlanks_35 (by decide) ?_
      exact v_g (mu_mu _ _ _ _ _) (ih0 (x + 1) ⟨by omega, by omega, by rw [← hI0.2.2]; exact (sk_y hL.2 (by unfold lk; rw [if_pos c8]; exact c22)).symm⟩ (by omega))

set_option maxRecDepth 100000 in
set_option maxHeartbeats 4000000 in
theorem c_X2_take (l : Launch) (D : va_G) (yc : Nat → ClassId) (t1 t2 : Nat) (a : Int → Nat) (A : Nat → Prop) (g : Mm) (r c : Int) (hr : 6 ≤ r ∧ r < 10) (hL : -1 ≤ g (6 + r) 1 ∧ g (6 + r) 1 ≤ 60) (HB : ∀ j, -128 ≤ g (16 + r) j ∧ g (16 + r) j ≤ 127) (hp : 0 ≤ g 4 1 ∧ g 4 1 ≤ 60) (hc : R32 c) : Ci l yX2_take wsX2_take { frames := 2, cells := 0, slots := 0, locals := 42 } D yc t1 t2 A (cw a yc) [.ref (a (4)), .ref (a (6 + r)), .int (iI (c))] g (fun r9 g' => r9 = (bI (sg (fun x9 => g (16 + r) x9) (g (6 + r) 1) (g 4 1) = c)) ∧ g' = (if sg (fun x9 => g (16 + r) x9) (g (6 + r) 1) (g 4 1) = c then mu g 4 1 (g 4 1 + 1) else g)) := by
  refine start_i (cc := cX2_take) (nL := 3) (ret := (some .boolean)) (own := RX2) (by decide +kernel) rfl rfl (Nat.le_of_ble_eq_true rfl) ?_
  intro p e s m9 below meth c9 C
  have wf21 : Cond.fieldLink RX2 21 (TX2 1).1 (TX2 1).2.1 (TX2 1).2.2.1 ∈ wsX2_take := by decide +kernel
  have hinX2 : ∀ w ∈ u_ws RX2 TX2 2, w ∈ wsX2_take := by decide +kernel
  have hsg := sg_bd (B := fun x9 => g (16 + r) x9) HB (g (6 + r) 1) (g 4 1)
  refine v_lv (lv' := [(0, .ref (a (4))), (1, .ref (a (6 + r))), (2, .int (iI (c)))]) rfl ?_
  refine v_aload_n C 0 dX2_take_0 rfl ?_
  refine v_aload_n C 1 dX2_take_1 rfl ?_
  refine v_cV_i C (As := [.ref (a (6 + r))]) (rest := []) (c_X2_signHere l D yc t1 t2 a A g r (by omega) (by omega) HB (by omega)) (cwV 1 C.hts gX2_take_X2_signHere rfl rfl rfl (by decide +kernel) ⟨by decide, by decide⟩) (fun H hP => va_recv C.hK hP (ci := 2) (q0 := (4 : Int).toNat) rfl (wo_is (by omega) (by omega) ct_reader)) rfl rfl (Nat.le_of_ble_eq_true rfl) dX2_take_2 ?_
  intro r9 g9 h9
  rw [h9.1, h9.2]
  clear h9 g9 r9
  try dsimp only
  refine v_iload_n C 2 dX2_take_5 rfl ?_
  refine v_icmp_eq (tgt := 11) C dX2_take_6 (by decide) (by omega) (by omega) (fun c6 => ?_) (fun c6 => ?_)
  · skip
    refine v_aload_n C 0 dX2_take_11 rfl ?_
    refine v_dup C dX2_take_12 rfl ?_
    refine v_getf C (by omega) (by omega) ct_reader rfl 1 (by decide) wf21 hinX2 rfl dX2_take_13 ?_
    refine v_iconst C dX2_take_16 ?_
    refine v_iadd C dX2_take_17 ?_
    refine v_puti C (cta_L a yc) (by omega) (by omega) ct_reader rfl 1 (by decide) wf21 hinX2 tyX2 tyX2_ok nmX2 rfl (by decide +kernel) (by simp) cs_reader_1 dX2_take_18 ?_
    refine v_g (g' := (mu g (4) (1) ((g (4) (1)) + 1))) rfl ?_
    refine v_iconst C dX2_take_21 ?_
    exact v_ret_z C rfl (Or.inr rfl) dX2_take_22 ⟨(bI_t (by omega)), (by first | rw [if_pos (by omega)] | rw [if_neg (by omega)])⟩
  · skip
    refine v_iconst C dX2_take_9 ?_
    exact v_ret_z C rfl (Or.inl rfl) dX2_take_10 ⟨(bI_f (by omega)), (by first | rw [if_pos (by omega)] | rw [if_neg (by omega)])⟩

set_option maxRecDepth 100000 in
set_option maxHeartbeats 4000000 in
theorem c_X1_addTurn (l : Launch) (D : va_G) (yc : Nat → ClassId) (t1 t2 : Nat) (a : Int → Nat) (A : Nat → Prop) (g : Mm) (f v : Int) (hf : 0 ≤ f ∧ f < 5) (hc : 0 ≤ g (26 + f) 5 ∧ g (26 + f) 5 ≤ 8) (hv : R32 v) : Ci l yX1_addTurn wsX1_addTurn { frames := 0, cells := 0, slots := 0, locals := 0 } D yc t1 t2 A (cw a yc) [.ref (a (26 + f)), .int (iI (v))] g (fun r9 g' => r9 = (bI (g (26 + f) 5 < 8)) ∧ g' = (if g (26 + f) 5 < 8 then mu (mu g (26 + f) 5 (g (26 + f) 5 + 1)) (31 + f) (g (26 + f) 5) v else g)) := by
  refine start_i (cc := cX1_addTurn) (nL := 2) (ret := (some .boolean)) (own := RX1) (by decide +kernel) rfl rfl (Nat.le_of_ble_eq_true rfl) ?_
  intro p e s m9 below meth c9 C
  have wf35 : Cond.fieldLink RX1 35 (TX1 5).1 (TX1 5).2.1 (TX1 5).2.2.1 ∈ wsX1_addTurn := by decide +kernel
  have hinX1 : ∀ w ∈ u_ws RX1 TX1 11, w ∈ wsX1_addTurn := by decide +kernel
  have wf9 : Cond.fieldLink RX1 9 (TX1 0).1 (TX1 0).2.1 (TX1 0).2.2.1 ∈ wsX1_addTurn := by decide +kernel
  refine v_lv (lv' := [(0, .ref (a (26 + f))), (1, .int (iI (v)))]) rfl ?_
  refine v_aload_n C 0 dX1_addTurn_0 rfl ?_
  refine v_getf C (by omega) (by omega) (ct_farm (by omega) (by omega)) rfl 5 (by decide) wf35 hinX1 rfl dX1_addTurn_1 ?_
  refine v_bipush C dX1_addTurn_4 (by decide) ?_
  refine v_icmp_lt (tgt := 11) C dX1_addTurn_6 (by decide) (by omega) (by omega) (fun c6 => ?_) (fun c6 => ?_)
  · skip
    refine v_aload_n C 0 dX1_addTurn_11 rfl ?_
    refine v_getf C (by omega) (by omega) (ct_farm (by omega) (by omega)) rfl 0 (by decide) wf9 hinX1 rfl dX1_addTurn_12 ?_
    refine v_aload_n C 0 dX1_addTurn_15 rfl ?_
    refine v_dup C dX1_addTurn_16 rfl ?_
    refine v_getf C (by omega) (by omega) (ct_farm (by omega) (by omega)) rfl 5 (by decide) wf35 hinX1 rfl dX1_addTurn_17 ?_
    refine v_dup_x1 C dX1_addTurn_20 rfl rfl ?_
    refine v_iconst C dX1_addTurn_21 ?_
    refine v_iadd C dX1_addTurn_22 ?_
    refine v_puti C (cta_L a yc) (by omega) (by omega) (ct_farm (by omega) (by omega)) rfl 5 (by decide) wf35 hinX1 tyX1 tyX1_ok nmX1 rfl (by decide +kernel) (by simp) (cs_farm_5 (by omega) (by omega)) dX1_addTurn_23 ?_
    refine v_g (g' := (mu g (26 + f) (5) ((g (26 + f) (5)) + 1))) rfl ?_
    refine v_iload_n C 1 dX1_addTurn_26 rfl ?_
    refine v_iastore C (cta_L a yc) (by omega) (by omega) (ct_turns (by omega) (by omega)) (ct_turns (by omega) (by omega)).symm (by omega) (by omega) (by decide) dX1_addTurn_27 ?_
    refine v_iconst C dX1_addTurn_28 ?_
    exact v_ret_z C rfl (Or.inr rfl) dX1_addTurn_29 ⟨(bI_t (by omega)), (by first | rw [if_pos (by omega)] | rw [if_neg (by omega)])⟩
  · skip
    refine v_iconst C dX1_addTurn_9 ?_
    exact v_ret_z C rfl (Or.inl rfl) dX1_addTurn_10 ⟨(bI_f (by omega)), (by first | rw [if_pos (by omega)] | rw [if_neg (by omega)])⟩

set_option maxRecDepth 100000 in
set_option maxHeartbeats 4000000 in
theorem c_X1_addMilk (l : Launch) (D : va_G) (yc : Nat → ClassId) (t1 t2 : Nat) (a : Int → Nat) (A : Nat → Prop) (g : Mm) (f v : Int) (hf : 0 ≤ f ∧ f < 5) (hc : 0 ≤ g (26 + f) 6 ∧ g (26 + f) 6 ≤ 6) (hv : R32 v) : Ci l yX1_addMilk wsX1_addMilk { frames := 0, cells := 0, slots := 0, locals := 0 } D yc t1 t2 A (cw a yc) [.ref (a (26 + f)), .int (iI (v))] g (fun r9 g' => r9 = (bI (g (26 + f) 6 < 6)) ∧ g' = (if g (26 + f) 6 < 6 then mu (mu g (26 + f) 6 (g (26 + f) 6 + 1)) (36 + f) (g (26 + f) 6) v else g)) := by
  refine start_i (cc := cX1_addMilk) (nL := 2) (ret := (some .boolean)) (own := RX1) (by decide +kernel) rfl rfl (Nat.le_of_ble_eq_true rfl) ?_
  intro p e s m9 below meth c9 C
  have wf38 : Cond.fieldLink RX1 38 (TX1 6).1 (TX1 6).2.1 (TX1 6).2.2.1 ∈ wsX1_addMilk := by decide +kernel
  have hinX1 : ∀ w ∈ u_ws RX1 TX1 11, w ∈ wsX1_addMilk := by decide +kernel
  have wf15 : Cond.fieldLink RX1 15 (TX1 1).1 (TX1 1).2.1 (TX1 1).2.2.1 ∈ wsX1_addMilk := by decide +kernel
  refine v_lv (lv' := [(0, .ref (a (26 + f))), (1, .int (iI (v)))]) rfl ?_
  refine v_aload_n C 0 dX1_addMilk_0 rfl ?_
  refine v_getf C (by omega) (by omega) (ct_farm (by omega) (by omega)) rfl 6 (by decide) wf38 hinX1 rfl dX1_addMilk_1 ?_
  refine v_bipush C dX1_addMilk_4 (by decide) ?_
  refine v_icmp_lt (tgt := 11) C dX1_addMilk_6 (by decide) (by omega) (by omega) (fun c6 => ?_) (fun c6 => ?_)
  · skip
    refine v_aload_n C 0 dX1_addMilk_11 rfl ?_
    refine v_getf C (by omega) (by omega) (ct_farm (by omega) (by omega)) rfl 1 (by decide) wf15 hinX1 rfl dX1_addMilk_12 ?_
    refine v_aload_n C 0 dX1_addMilk_15 rfl ?_
    refine v_dup C dX1_addMilk_16 rfl ?_
    refine v_getf C (by omega) (by omega) (ct_farm (by omega) (by omega)) rfl 6 (by decide) wf38 hinX1 rfl dX1_addMilk_17 ?_
    refine v_dup_x1 C dX1_addMilk_20 rfl rfl ?_
    refine v_iconst C dX1_addMilk_21 ?_
    refine v_iadd C dX1_addMilk_22 ?_
    refine v_puti C (cta_L a yc) (by omega) (by omega) (ct_farm (by omega) (by omega)) rfl 6 (by decide) wf38 hinX1 tyX1 tyX1_ok nmX1 rfl (by decide +kernel) (by simp) (cs_farm_6 (by omega) (by omega)) dX1_addMilk_23 ?_
    refine v_g (g' := (mu g (26 + f) (6) ((g (26 + f) (6)) + 1))) rfl ?_
    refine v_iload_n C 1 dX1_addMilk_26 rfl ?_
    refine v_iastore C (cta_L a yc) (by omega) (by omega) (ct_milks (by omega) (by omega)) (ct_milks (by omega) (by omega)).symm (by omega) (by omega) (by decide) dX1_addMilk_27 ?_
    refine v_iconst C dX1_addMilk_28 ?_
    exact v_ret_z C rfl (Or.inr rfl) dX1_addMilk_29 ⟨(bI_t (by omega)), (by first | rw [if_pos (by omega)] | rw [if_neg (by omega)])⟩
  · skip
    refine v_iconst C dX1_addMilk_9 ?_
    exact v_ret_z C rfl (Or.inl rfl) dX1_addMilk_10 ⟨(bI_f (by omega)), (by first | rw [if_pos (by omega)] | rw [if_neg (by omega)])⟩

set_option maxRecDepth 100000 in
set_option maxHeartbeats 4000000 in
theorem c_X1_addBeast (l : Launch) (D : va_G) (yc : Nat → ClassId) (t1 t2 : Nat) (a : Int → Nat) (A : Nat → Prop) (g : Mm) (f k w o : Int) (hf : 0 ≤ f ∧ f < 5) (hc : 0 ≤ g (26 + f) 7 ∧ g (26 + f) 7 ≤ 6) (hk5 : 0 ≤ k ∧ k ≤ 5) (hw : 1 ≤ w ∧ w ≤ 9) : Ci l yX1_addBeast wsX1_addBeast { frames := 2, cells := 0, slots := 0, locals := 47 } D yc t1 t2 A (cw a yc) [.ref (a (26 + f)), .int (iI (k)), .int (iI (w)), .int (iI (o))] g (fun r9 g' => r9 = (bI (g (26 + f) 7 < 6)) ∧ g' = (if g (26 + f) 7 < 6 then setB (mu g (26 + f) 7 (g (26 + f) 7 + 1)) (56 + 6 * f + g (26 + f) 7) k w o else g)) := by
  refine start_i (cc := cX1_addBeast) (nL := 4) (ret := (some .boolean)) (own := RX1) (by decide +kernel) rfl rfl (Nat.le_of_ble_eq_true rfl) ?_
  intro p e s m9 below meth c9 C
  have wf31 : Cond.fieldLink RX1 31 (TX1 7).1 (TX1 7).2.1 (TX1 7).2.2.1 ∈ wsX1_addBeast := by decide +kernel
  have hinX1 : ∀ w ∈ u_ws RX1 TX1 11, w ∈ wsX1_addBeast := by decide +kernel
  have wf20 : Cond.fieldLink RX1 20 (TX1 2).1 (TX1 2).2.1 (TX1 2).2.2.1 ∈ wsX1_addBeast := by decide +kernel
  refine v_lv (lv' := [(0, .ref (a (26 + f))), (1, .int (iI (k))), (2, .int (iI (w))), (3, .int (iI (o)))]) rfl ?_
  refine v_aload_n C 0 dX1_addBeast_0 rfl ?_
  refine v_getf C (by omega) (by omega) (ct_farm (by omega) (by omega)) rfl 7 (by decide) wf31 hinX1 rfl dX1_addBeast_1 ?_
  refine v_bipush C dX1_addBeast_4 (by decide) ?_
  refine v_icmp_lt (tgt := 11) C dX1_addBeast_6 (by decide) (by omega) (by omega) (fun c6 => ?_) (fun c6 => ?_)
  · skip
    refine v_aload_n C 0 dX1_addBeast_11 rfl ?_
    refine v_getf C (by omega) (by omega) (ct_farm (by omega) (by omega)) rfl 2 (by decide) wf20 hinX1 rfl dX1_addBeast_12 ?_
    refine v_aload_n C 0 dX1_addBeast_15 rfl ?_
    refine v_dup C dX1_addBeast_16 rfl ?_
    refine v_getf C (by omega) (by omega) (ct_farm (by omega) (by omega)) rfl 7 (by decide) wf31 hinX1 rfl dX1_addBeast_17 ?_
    refine v_dup_x1 C dX1_addBeast_20 rfl rfl ?_
    refine v_iconst C dX1_addBeast_21 ?_
    refine v_iadd C dX1_addBeast_22 ?_
    refine v_puti C (cta_L a yc) (by omega) (by omega) (ct_farm (by omega) (by omega)) rfl 7 (by decide) wf31 hinX1 tyX1 tyX1_ok nmX1 rfl (by decide +kernel) (by simp) (cs_farm_7 (by omega) (by omega)) dX1_addBeast_23 ?_
    refine v_g (g' := (mu g (26 + f) (7) ((g (26 + f) (7)) + 1))) rfl ?_
    refine v_aaload (f := fun j => 56 + 6 * f + j) C (by omega) (by omega) 2 rfl (ct_beastsA (by omega) (by omega)) (by omega) (by omega) (by decide) dX1_addBeast_26 ?_
    refine v_iload_n C 1 dX1_addBeast_27 rfl ?_
    refine v_iload_n C 2 dX1_addBeast_28 rfl ?_
    refine v_iload_n C 3 dX1_addBeast_29 rfl ?_
    refine v_cV_v C (As := [.int (iI (k)), .int (iI (w)), .int (iI (o))]) (rest := []) (c_X0_become l D yc t1 t2 a A (mu g (26 + f) (7) ((g (26 + f) (7)) + 1)) f (g (26 + f) (7)) k w o (by omega) (by omega) (by omega) (by omega)) (cwV 3 C.hts gX1_addBeast_X0_become rfl rfl rfl (by decide +kernel) ⟨by decide, by decide⟩) (fun H hP => va_recv C.hK hP (ci := 0) (q0 := (56 + 6 * f + (g (26 + f) (7)) : Int).toNat) rfl (wo_is (by omega) (by omega) (ct_beast (by omega) (by omega) (by omega) (by omega)))) rfl rfl (Nat.le_of_ble_eq_true rfl) dX1_addBeast_30 ?_
    intro g9 h9
    rw [h9]
    clear h9 g9
    try dsimp only
    refine v_iconst C dX1_addBeast_33 ?_
    exact v_ret_z C rfl (Or.inr rfl) dX1_addBeast_34 ⟨(bI_t (by omega)), (by first | rw [if_pos (by omega)] | rw [if_neg (by omega)])⟩
  · skip
    refine v_iconst C dX1_addBeast_9 ?_
    exact v_ret_z C rfl (Or.inl rfl) dX1_addBeast_10 ⟨(bI_f (by omega)), (by first | rw [if_pos (by omega)] | rw [if_neg (by omega)])⟩

set_option maxRecDepth 100000 in
set_option maxHeartbeats 4000000 in
theorem c_X1_clear (l : Launch) (D : va_G) (yc : Nat → ClassId) (t1 t2 : Nat) (a : Int → Nat) (A : Nat → Prop) (g : Mm) (f : Int) (hf : 0 ≤ f ∧ f < 5) : Cv l yX1_clear wsX1_clear { frames := 0, cells := 0, slots := 0, locals := 0 } D yc t1 t2 A (cw a yc) [.ref (a (26 + f))] g (fun g' => g' = (mu (mu (mu (mu (mu (mu g (26 + f) 5 0) (26 + f) 6 0) (26 + f) 7 0) (26 + f) 8 0) (26 + f) 9 0) (26 + f) 10 0)) := by
  refine start_v (cc := cX1_clear) (nL := 1) (ret := none) (own := RX1) (by decide +kernel) rfl rfl (Nat.le_of_ble_eq_true rfl) ?_
  intro p e s m9 below meth c9 C
  have wf35 : Cond.fieldLink RX1 35 (TX1 5).1 (TX1 5).2.1 (TX1 5).2.2.1 ∈ wsX1_clear := by decide +kernel
  have hinX1 : ∀ w ∈ u_ws RX1 TX1 11, w ∈ wsX1_clear := by decide +kernel
  have wf38 : Cond.fieldLink RX1 38 (TX1 6).1 (TX1 6).2.1 (TX1 6).2.2.1 ∈ wsX1_clear := by decide +kernel
  have wf31 : Cond.fieldLink RX1 31 (TX1 7).1 (TX1 7).2.1 (TX1 7).2.2.1 ∈ wsX1_clear := by decide +kernel
  have wf41 : Cond.fieldLink RX1 41 (TX1 8).1 (TX1 8).2.1 (TX1 8).2.2.1 ∈ wsX1_clear := by decide +kernel
  have wf44 : Cond.fieldLink RX1 44 (TX1 9).1 (TX1 9).2.1 (TX1 9).2.2.1 ∈ wsX1_clear := by decide +kernel
  have wf47 : Cond.fieldLink RX1 47 (TX1 10).1 (TX1 10).2.1 (TX1 10).2.2.1 ∈ wsX1_clear := by decide +kernel
  refine v_lv (lv' := [(0, .ref (a (26 + f)))]) rfl ?_
  refine v_aload_n C 0 dX1_clear_0 rfl ?_
  refine v_iconst C dX1_clear_1 ?_
  refine v_puti C (cta_L a yc) (by omega) (by omega) (ct_farm (by omega) (by omega)) rfl 5 (by decide) wf35 hinX1 tyX1 tyX1_ok nmX1 rfl (by decide +kernel) (by simp) (cs_farm_5 (by omega) (by omega)) dX1_clear_2 ?_
  refine v_g (g' := (mu g (26 + f) (5) (0))) rfl ?_
  refine v_aload_n C 0 dX1_clear_5 rfl ?_
  refine v_iconst C dX1_clear_6 ?_
  refine v_puti C (cta_L a yc) (by omega) (by omega) (ct_farm (by omega) (by omega)) rfl 6 (by decide) wf38 hinX1 tyX1 tyX1_ok nmX1 rfl (by decide +kernel) (by simp) (cs_farm_6 (by omega) (by omega)) dX1_clear_7 ?_
  refine v_g (g' := (mu (mu g (26 + f) (5) (0)) (26 + f) (6) (0))) rfl ?_
  refine v_aload_n C 0 dX1_clear_10 rfl ?_
  refine v_iconst C dX1_clear_11 ?_
  refine v_puti C (cta_L a yc) (by omega) (by omega) (ct_farm (by omega) (by omega)) rfl 7 (by decide) wf31 hinX1 tyX1 tyX1_ok nmX1 rfl (by decide +kernel) (by simp) (cs_farm_7 (by omega) (by omega)) dX1_clear_12 ?_
  refine v_g (g' := (mu (mu (mu g (26 + f) (5) (0)) (26 + f) (6) (0)) (26 + f) (7) (0))) rfl ?_
  refine v_aload_n C 0 dX1_clear_15 rfl ?_
  refine v_iconst C dX1_clear_16 ?_
  refine v_puti C (cta_L a yc) (by omega) (by omega) (ct_farm (by omega) (by omega)) rfl 8 (by decide) wf41 hinX1 tyX1 tyX1_ok nmX1 rfl (by decide +kernel) (by simp) (cs_farm_8 (by omega) (by omega)) dX1_clear_17 ?_
  refine v_g (g' := (mu (mu (mu (mu g (26 + f) (5) (0)) (26 + f) (6) (0)) (26 + f) (7) (0)) (26 + f) (8) (0))) rfl ?_
  refine v_aload_n C 0 dX1_clear_20 rfl ?_
  refine v_iconst C dX1_clear_21 ?_
  refine v_puti C (cta_L a yc) (by omega) (by omega) (ct_farm (by omega) (by omega)) rfl 9 (by decide) wf44 hinX1 tyX1 tyX1_ok nmX1 rfl (by decide +kernel) (by simp) (cs_farm_9 (by omega) (by omega)) dX1_clear_22 ?_
  refine v_g (g' := (mu (mu (mu (mu (mu g (26 + f) (5) (0)) (26 + f) (6) (0)) (26 + f) (7) (0)) (26 + f) (8) (0)) (26 + f) (9) (0))) rfl ?_
  refine v_aload_n C 0 dX1_clear_25 rfl ?_
  refine v_iconst C dX1_clear_26 ?_
  refine v_puti C (cta_L a yc) (by omega) (by omega) (ct_farm (by omega) (by omega)) rfl 10 (by decide) wf47 hinX1 tyX1 tyX1_ok nmX1 rfl (by decide +kernel) (by simp) (cs_farm_10 (by omega) (by omega)) dX1_clear_27 ?_
  refine v_g (g' := (mu (mu (mu (mu (mu (mu g (26 + f) (5) (0)) (26 + f) (6) (0)) (26 + f) (7) (0)) (26 + f) (8) (0)) (26 + f) (9) (0)) (26 + f) (10) (0))) rfl ?_
  exact v_ret_v C rfl dX1_clear_30 rfl
