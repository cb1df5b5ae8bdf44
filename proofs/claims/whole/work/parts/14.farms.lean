set_option maxRecDepth 100000 in
set_option maxHeartbeats 4000000 in
theorem c_X1_writeDeed (l : Launch) (D : va_G) (yc : Nat → ClassId) (t1 t2 : Nat) (a : Int → Nat) (A : Nat → Prop) (g : Mm) (f k th : Int) (hf : 0 ≤ f ∧ f < 5) (hd : 0 ≤ g (26 + f) 8 ∧ g (26 + f) 8 < 60) : Ci l yX1_writeDeed wsX1_writeDeed { frames := 0, cells := 0, slots := 0, locals := 0 } D yc t1 t2 A (cw a yc) [.ref (a (26 + f)), .int (iI (k)), .int (iI (th))] g (fun r9 g' => r9 = (iI (1)) ∧ g' = (wd g f k th)) := by
  refine start_i (cc := cX1_writeDeed) (nL := 3) (ret := (some .boolean)) (own := RX1) (by decide +kernel) rfl rfl (Nat.le_of_ble_eq_true rfl) ?_
  intro p e s m9 below meth c9 C
  have wf41 : Cond.fieldLink RX1 41 (TX1 8).1 (TX1 8).2.1 (TX1 8).2.2.1 ∈ wsX1_writeDeed := by decide +kernel
  have hinX1 : ∀ w ∈ u_ws RX1 TX1 11, w ∈ wsX1_writeDeed := by decide +kernel
  have wf24 : Cond.fieldLink RX1 24 (TX1 3).1 (TX1 3).2.1 (TX1 3).2.2.1 ∈ wsX1_writeDeed := by decide +kernel
  have wf27 : Cond.fieldLink RX1 27 (TX1 4).1 (TX1 4).2.1 (TX1 4).2.2.1 ∈ wsX1_writeDeed := by decide +kernel
  refine v_lv (lv' := [(0, .ref (a (26 + f))), (1, .int (iI (k))), (2, .int (iI (th)))]) rfl ?_
  refine v_aload_n C 0 dX1_writeDeed_0 rfl ?_
  refine v_getf C (by omega) (by omega) (ct_farm (by omega) (by omega)) rfl 8 (by decide) wf41 hinX1 rfl dX1_writeDeed_1 ?_
  refine v_bipush C dX1_writeDeed_4 (by decide) ?_
  refine v_icmp_lt (tgt := 11) C dX1_writeDeed_6 (by decide) (by omega) (by omega) (fun c6 => ?_) (fun c6 => ?_)
  · skip
    refine v_aload_n C 0 dX1_writeDeed_11 rfl ?_
    refine v_getf C (by omega) (by omega) (ct_farm (by omega) (by omega)) rfl 3 (by decide) wf24 hinX1 rfl dX1_writeDeed_12 ?_
    refine v_aload_n C 0 dX1_writeDeed_15 rfl ?_
    refine v_getf C (by omega) (by omega) (ct_farm (by omega) (by omega)) rfl 8 (by decide) wf41 hinX1 rfl dX1_writeDeed_16 ?_
    refine v_iload_n C 1 dX1_writeDeed_19 rfl ?_
    refine v_iastore C (cta_L a yc) (by omega) (by omega) (ct_dk (by omega) (by omega)) (ct_dk (by omega) (by omega)).symm (by omega) (by omega) (by decide) dX1_writeDeed_20 ?_
    refine v_aload_n C 0 dX1_writeDeed_21 rfl ?_
    refine v_getf C (by omega) (by omega) (ct_farm (by omega) (by omega)) rfl 4 (by decide) wf27 hinX1 rfl dX1_writeDeed_22 ?_
    refine v_aload_n C 0 dX1_writeDeed_25 rfl ?_
    refine v_getf C (by omega) (by omega) (ct_farm (by omega) (by omega)) rfl 8 (by decide) wf41 hinX1 rfl dX1_writeDeed_26 ?_
    refine v_st (st' := [.int (iI (g (26 + f) (8))), .ref (a (51 + f))]) (by rw [mu_ne (show 26 + f ≠ 46 + f by omega)]) ?_
    refine v_iload_n C 2 dX1_writeDeed_29 rfl ?_
    refine v_iastore C (cta_L a yc) (by omega) (by omega) (ct_dt (by omega) (by omega)) (ct_dt (by omega) (by omega)).symm (by omega) (by omega) (by decide) dX1_writeDeed_30 ?_
    refine v_aload_n C 0 dX1_writeDeed_31 rfl ?_
    refine v_dup C dX1_writeDeed_32 rfl ?_
    refine v_getf C (by omega) (by omega) (ct_farm (by omega) (by omega)) rfl 8 (by decide) wf41 hinX1 rfl dX1_writeDeed_33 ?_
    refine v_st (st' := [.int (iI (g (26 + f) (8))), .ref (a (26 + f))]) (by rw [mu_ne (show 26 + f ≠ 51 + f by omega), mu_ne (show 26 + f ≠ 46 + f by omega)]) ?_
    refine v_iconst C dX1_writeDeed_36 ?_
    refine v_iadd C dX1_writeDeed_37 ?_
    refine v_puti C (cta_L a yc) (by omega) (by omega) (ct_farm (by omega) (by omega)) rfl 8 (by decide) wf41 hinX1 tyX1 tyX1_ok nmX1 rfl (by decide +kernel) (by simp) (cs_farm_8 (by omega) (by omega)) dX1_writeDeed_38 ?_
    refine v_g (g' := (mu (mu (mu g (46 + f) (g (26 + f) (8)) (k)) (51 + f) (g (26 + f) (8)) (th)) (26 + f) (8) ((g (26 + f) (8)) + 1))) rfl ?_
    refine v_iconst C dX1_writeDeed_41 ?_
    exact v_ret_z C rfl (Or.inr rfl) dX1_writeDeed_42 ⟨rfl, rfl⟩
  · exact absurd c6 (by omega)

set_option maxRecDepth 100000 in
set_option maxHeartbeats 4000000 in
theorem c_X1_letDayGoBy (l : Launch) (D : va_G) (yc : Nat → ClassId) (t1 t2 : Nat) (a : Int → Nat) (A : Nat → Prop) (g : Mm) (f : Int) (hf : 0 ≤ f ∧ f < 5) (hd : 0 ≤ g (26 + f) 8 ∧ g (26 + f) 8 < 60) (ht : 0 ≤ g (26 + f) 9 ∧ g (26 + f) 9 ≤ 999) : Cv l yX1_letDayGoBy wsX1_letDayGoBy { frames := 1, cells := 0, slots := 0, locals := 22 } D yc t1 t2 A (cw a yc) [.ref (a (26 + f))] g (fun g' => g' = (if g (26 + f) 9 < 999 then mu (wd g f 0 0) (26 + f) 9 (g (26 + f) 9 + 1) else g)) := by
  refine start_v (cc := cX1_letDayGoBy) (nL := 1) (ret := none) (own := RX1) (by decide +kernel) rfl rfl (Nat.le_of_ble_eq_true rfl) ?_
  intro p e s m9 below meth c9 C
  have wf44 : Cond.fieldLink RX1 44 (TX1 9).1 (TX1 9).2.1 (TX1 9).2.2.1 ∈ wsX1_letDayGoBy := by decide +kernel
  have hinX1 : ∀ w ∈ u_ws RX1 TX1 11, w ∈ wsX1_letDayGoBy := by decide +kernel
  refine v_lv (lv' := [(0, .ref (a (26 + f)))]) rfl ?_
  refine v_aload_n C 0 dX1_letDayGoBy_0 rfl ?_
  refine v_getf C (by omega) (by omega) (ct_farm (by omega) (by omega)) rfl 9 (by decide) wf44 hinX1 rfl dX1_letDayGoBy_1 ?_
  refine v_sipush C dX1_letDayGoBy_4 (by decide) ?_
  refine v_icmp_ge (tgt := 29) C dX1_letDayGoBy_7 (by decide) (by omega) (by omega) (fun c7 => ?_) (fun c7 => ?_)
  · skip
    exact v_ret_v C rfl dX1_letDayGoBy_29 (by first | rw [if_pos (by omega)] | rw [if_neg (by omega)])
  · skip
    refine v_aload_n C 0 dX1_letDayGoBy_10 rfl ?_
    refine v_iconst C dX1_letDayGoBy_11 ?_
    refine v_iconst C dX1_letDayGoBy_12 ?_
    refine v_cV_i C (As := [.int (iI (0)), .int (iI (0))]) (rest := []) (c_X1_writeDeed l D yc t1 t2 a A g f 0 0 (by omega) (by omega)) (cwV 2 C.hts gX1_letDayGoBy_X1_writeDeed rfl rfl rfl (by decide +kernel) ⟨by decide, by decide⟩) (fun H hP => va_recv C.hK hP (ci := 1) (q0 := (26 + f : Int).toNat) rfl (wo_is (by omega) (by omega) (ct_farm (by omega) (by omega)))) rfl rfl (Nat.le_of_ble_eq_true rfl) dX1_letDayGoBy_13 ?_
    intro r9 g9 h9
    rw [h9.1, h9.2]
    clear h9 g9 r9
    try dsimp only
    refine v_if_eq (tgt := 29) C dX1_letDayGoBy_16 (by decide) (by decide) (fun h9 => absurd h9 (by decide)) (fun _ => ?_)
    refine v_aload_n C 0 dX1_letDayGoBy_19 rfl ?_
    refine v_dup C dX1_letDayGoBy_20 rfl ?_
    refine v_getf C (by omega) (by omega) (ct_farm (by omega) (by omega)) rfl 9 (by decide) wf44 hinX1 rfl dX1_letDayGoBy_21 ?_
    refine v_st (st' := [.int (iI (g (26 + f) 9)), .ref (a (26 + f))]) (by rw [show wd g f 0 0 (26 + f) 9 = g (26 + f) 9 by unfold wd; rw [mu_nj (by decide), mu_ne (by omega), mu_ne (by omega)]]) ?_
    refine v_iconst C dX1_letDayGoBy_24 ?_
    refine v_iadd C dX1_letDayGoBy_25 ?_
    refine v_puti C (cta_L a yc) (by omega) (by omega) (ct_farm (by omega) (by omega)) rfl 9 (by decide) wf44 hinX1 tyX1 tyX1_ok nmX1 rfl (by decide +kernel) (by simp) (cs_farm_9 (by omega) (by omega)) dX1_letDayGoBy_26 ?_
    refine v_g (g' := (mu ((wd g f 0 0)) (26 + f) (9) ((g (26 + f) 9) + 1))) rfl ?_
    exact v_ret_v C rfl dX1_letDayGoBy_29 (by first | rw [if_pos (by omega)] | rw [if_neg (by omega)])

set_option maxRecDepth 100000 in
set_option maxHeartbeats 4000000 in
theorem c_X1_driveOver (l : Launch) (D : va_G) (yc : Nat → ClassId) (t1 t2 : Nat) (a : Int → Nat) (A : Nat → Prop) (g : Mm) (f i : Int) (hf : 0 ≤ f ∧ f < 5) (hd : 0 ≤ g (26 + f) 8 ∧ g (26 + f) 8 < 60) (hi : 0 ≤ i ∧ i < g (26 + f) 7) (hb : g (26 + f) 7 ≤ 6) : Cv l yX1_driveOver wsX1_driveOver { frames := 1, cells := 0, slots := 0, locals := 22 } D yc t1 t2 A (cw a yc) [.ref (a (26 + f)), .int (iI (i))] g (fun g' => g' = (mu (wd g f 1 i) (56 + 6 * f + i) 2 (1 - g (56 + 6 * f + i) 2))) := by
  refine start_v (cc := cX1_driveOver) (nL := 2) (ret := none) (own := RX1) (by decide +kernel) rfl rfl (Nat.le_of_ble_eq_true rfl) ?_
  intro p e s m9 below meth c9 C
  have wf31 : Cond.fieldLink RX1 31 (TX1 7).1 (TX1 7).2.1 (TX1 7).2.2.1 ∈ wsX1_driveOver := by decide +kernel
  have hinX1 : ∀ w ∈ u_ws RX1 TX1 11, w ∈ wsX1_driveOver := by decide +kernel
  have wstX4_isNone : Cond.static yX4_isNone ∈ wsX1_driveOver := by decide +kernel
  have winiX4_isNone : Cond.initialized yX4_isNone.cls ∈ wsX1_driveOver := by decide +kernel
  have wf20 : Cond.fieldLink RX1 20 (TX1 2).1 (TX1 2).2.1 (TX1 2).2.2.1 ∈ wsX1_driveOver := by decide +kernel
  have wf62 : Cond.fieldLink RX1 62 (TX0 2).1 (TX0 2).2.1 (TX0 2).2.2.1 ∈ wsX1_driveOver := by decide +kernel
  have hinX0 : ∀ w ∈ u_ws RX0 TX0 5, w ∈ wsX1_driveOver := by decide +kernel
  refine v_lv (lv' := [(0, .ref (a (26 + f))), (1, .int (iI (i)))]) rfl ?_
  refine v_iload_n C 1 dX1_driveOver_0 rfl ?_
  refine v_aload_n C 0 dX1_driveOver_1 rfl ?_
  refine v_getf C (by omega) (by omega) (ct_farm (by omega) (by omega)) rfl 7 (by decide) wf31 hinX1 rfl dX1_driveOver_2 ?_
  refine v_cN_i C (As := [.int (iI (i)), .int (iI (g (26 + f) (7)))]) (rest := []) (c_X4_isNone l D yc t1 t2 A (cw a yc) g i (g (26 + f) (7)) (by omega) (by omega)) ⟨va_cnB 2 C.hts gX1_driveOver_X4_isNone_n73 rfl rfl rfl C.hF.2.2.2.1.1 (C.hts _ winiX4_isNone) (by decide +kernel) ⟨by decide, by decide⟩, C.hts _ wstX4_isNone, trivial⟩ rfl rfl (Nat.le_of_ble_eq_true rfl) dX1_driveOver_5 ?_
  intro r9 g9 h9
  rw [h9.1, h9.2]
  clear h9 g9 r9
  try dsimp only
  refine v_ifb_ne (tgt := 40) C dX1_driveOver_8 (by decide) (fun c8 => ?_) (fun c8 => ?_)
  · exact absurd c8 (by omega)
  · skip
    refine v_aload_n C 0 dX1_driveOver_11 rfl ?_
    refine v_iconst C dX1_driveOver_12 ?_
    refine v_iload_n C 1 dX1_driveOver_13 rfl ?_
    refine v_cV_i C (As := [.int (iI (1)), .int (iI (i))]) (rest := []) (c_X1_writeDeed l D yc t1 t2 a A g f 1 i (by omega) (by omega)) (cwV 2 C.hts gX1_driveOver_X1_writeDeed rfl rfl rfl (by decide +kernel) ⟨by decide, by decide⟩) (fun H hP => va_recv C.hK hP (ci := 1) (q0 := (26 + f : Int).toNat) rfl (wo_is (by omega) (by omega) (ct_farm (by omega) (by omega)))) rfl rfl (Nat.le_of_ble_eq_true rfl) dX1_driveOver_14 ?_
    intro r9 g9 h9
    rw [h9.1, h9.2]
    clear h9 g9 r9
    try dsimp only
    refine v_if_eq (tgt := 40) C dX1_driveOver_17 (by decide) (by decide) (fun h9 => absurd h9 (by decide)) (fun _ => ?_)
    refine v_aload_n C 0 dX1_driveOver_20 rfl ?_
    refine v_getf C (by omega) (by omega) (ct_farm (by omega) (by omega)) rfl 2 (by decide) wf20 hinX1 rfl dX1_driveOver_21 ?_
    refine v_iload_n C 1 dX1_driveOver_24 rfl ?_
    refine v_aaload (f := fun j => 56 + 6 * f + j) C (by omega) (by omega) 2 rfl (ct_beastsA (by omega) (by omega)) (by omega) (by omega) (by decide) dX1_driveOver_25 ?_
    refine v_iconst C dX1_driveOver_26 ?_
    refine v_aload_n C 0 dX1_driveOver_27 rfl ?_
    refine v_getf C (by omega) (by omega) (ct_farm (by omega) (by omega)) rfl 2 (by decide) wf20 hinX1 rfl dX1_driveOver_28 ?_
    refine v_iload_n C 1 dX1_driveOver_31 rfl ?_
    refine v_aaload (f := fun j => 56 + 6 * f + j) C (by omega) (by omega) 2 rfl (ct_beastsA (by omega) (by omega)) (by omega) (by omega) (by decide) dX1_driveOver_32 ?_
    refine v_getf C (by omega) (by omega) (ct_beast (by omega) (by omega) (by omega) (by omega)) rfl 2 (by decide) wf62 hinX0 rfl dX1_driveOver_33 ?_
    refine v_st (st' := [.int (iI (g (56 + 6 * f + i) 2)), .int (iI (1)), .ref (a (56 + 6 * f + i))]) (by rw [show wd g f 1 i (56 + 6 * f + i) 2 = g (56 + 6 * f + i) 2 by unfold wd; rw [mu_ne (by omega), mu_ne (by omega), mu_ne (by omega)]]) ?_
    refine v_isub C dX1_driveOver_36 ?_
    refine v_puti C (cta_L a yc) (by omega) (by omega) (ct_beast (by omega) (by omega) (by omega) (by omega)) rfl 2 (by decide) wf62 hinX0 tyX0 tyX0_ok nmX0 rfl (by decide +kernel) (by simp) (cs_beast_2 (by omega) (by omega) (by omega) (by omega)) dX1_driveOver_37 ?_
    refine v_g (g' := (mu ((wd g f 1 i)) (56 + 6 * f + i) (2) (1 - (g (56 + 6 * f + i) 2)))) rfl ?_
    exact v_ret_v C rfl dX1_driveOver_40 rfl

set_option maxRecDepth 100000 in
set_option maxHeartbeats 4000000 in
theorem c_X1_payOver (l : Launch) (D : va_G) (yc : Nat → ClassId) (t1 t2 : Nat) (a : Int → Nat) (A : Nat → Prop) (g : Mm) (f q am : Int) (hf : 0 ≤ f ∧ f < 5) (hd : 0 ≤ g (26 + f) 8 ∧ g (26 + f) 8 < 60) (hq : R32 q) : Cv l yX1_payOver wsX1_payOver { frames := 1, cells := 0, slots := 0, locals := 22 } D yc t1 t2 A (cw a yc) [.ref (a (26 + f)), .int (iI (q)), .int (iI (am))] g (fun g' => g' = (mu (wd g f 2 (if q = 0 then -am else am)) (26 + f) 10 (g (26 + f) 10 + (if q = 0 then -am else am)))) := by
  refine start_v (cc := cX1_payOver) (nL := 4) (ret := none) (own := RX1) (by decide +kernel) rfl rfl (Nat.le_of_ble_eq_true rfl) ?_
  intro p e s m9 below meth c9 C
  have wf47 : Cond.fieldLink RX1 47 (TX1 10).1 (TX1 10).2.1 (TX1 10).2.2.1 ∈ wsX1_payOver := by decide +kernel
  have hinX1 : ∀ w ∈ u_ws RX1 TX1 11, w ∈ wsX1_payOver := by decide +kernel
  refine v_lv (lv' := [(0, .ref (a (26 + f))), (1, .int (iI (q))), (2, .int (iI (am)))]) rfl ?_
  refine v_cut1 10 (fun (v10 : Int) => v10 = if q = 0 then -am else am) (fun (v10 : Int) => [(0, .ref (a (26 + f))), (1, .int (iI (q))), (2, .int (iI (am)))]) (fun (v10 : Int) => [.int (iI (v10))]) (fun (v10 : Int) => g) ?_ ?_
  · intro v10 hj10
    try dsimp only
    refine v_istore_n (lv' := [(3, .int (iI (v10))), (0, .ref (a (26 + f))), (1, .int (iI (q))), (2, .int (iI (am)))]) C dX1_payOver_10 (by decide) rfl ?_
    refine v_aload_n C 1 dX1_payOver_11 rfl ?_
    refine v_iconst C dX1_payOver_12 ?_
    refine v_iload_n C 0 dX1_payOver_13 rfl ?_
    refine v_cV_i C (As := [.int (iI (2)), .int (iI (v10))]) (rest := []) (c_X1_writeDeed l D yc t1 t2 a A g f 2 v10 (by omega) (by omega)) (cwV 2 C.hts gX1_payOver_X1_writeDeed rfl rfl rfl (by decide +kernel) ⟨by decide, by decide⟩) (fun H hP => va_recv C.hK hP (ci := 1) (q0 := (26 + f : Int).toNat) rfl (wo_is (by omega) (by omega) (ct_farm (by omega) (by omega)))) rfl rfl (Nat.le_of_ble_eq_true rfl) dX1_payOver_14 ?_
    intro r9 g9 h9
    rw [h9.1, h9.2]
    clear h9 g9 r9
    try dsimp only
    refine v_if_eq (tgt := 30) C dX1_payOver_17 (by decide) (by decide) (fun h9 => absurd h9 (by decide)) (fun _ => ?_)
    refine v_aload_n C 1 dX1_payOver_20 rfl ?_
    refine v_dup C dX1_payOver_21 rfl ?_
    refine v_getf C (by omega) (by omega) (ct_farm (by omega) (by omega)) rfl 10 (by decide) wf47 hinX1 rfl dX1_payOver_22 ?_
    refine v_st (st' := [.int (iI (g (26 + f) 10)), .ref (a (26 + f))]) (by rw [show wd g f 2 v10 (26 + f) 10 = g (26 + f) 10 by unfold wd; rw [mu_nj (by decide), mu_ne (by omega), mu_ne (by omega)]]) ?_
    refine v_iload_n C 0 dX1_payOver_25 rfl ?_
    refine v_iadd C dX1_payOver_26 ?_
    refine v_puti C (cta_L a yc) (by omega) (by omega) (ct_farm (by omega) (by omega)) rfl 10 (by decide) wf47 hinX1 tyX1 tyX1_ok nmX1 rfl (by decide +kernel) (by simp) (cs_farm_10 (by omega) (by omega)) dX1_payOver_27 ?_
    refine v_g (g' := (mu ((wd g f 2 v10)) (26 + f) (10) ((g (26 + f) 10) + v10))) rfl ?_
    exact v_ret_v C rfl dX1_payOver_30 (by rw [hj10])
  · intro jn10
    try dsimp only at jn10
    refine v_iload_n C 1 dX1_payOver_0 rfl ?_
    refine v_if_ne (tgt := 9) C dX1_payOver_1 (by decide) (by omega) (fun c1 => ?_) (fun c1 => ?_)
    · skip
      refine v_iload_n C 2 dX1_payOver_9 rfl ?_
      exact jn10 am (by simp [*])
    · skip
      refine v_iload_n C 2 dX1_payOver_4 rfl ?_
      refine v_ineg C dX1_payOver_5 ?_
      refine v_goto (tgt := 10) C dX1_payOver_6 (by decide) ?_
      exact jn10 (-am) (by simp [*])

set_option maxRecDepth 100000 in
set_option maxHeartbeats 4000000 in
theorem c_X1_undoDeed (l : Launch) (D : va_G) (yc : Nat → ClassId) (t1 t2 : Nat) (a : Int → Nat) (A : Nat → Prop) (g : Mm) (f k th : Int) (hf : 0 ≤ f ∧ f < 5) (hk : R32 k) (ht : R32 th) : Cv l yX1_undoDeed wsX1_undoDeed { frames := 1, cells := 0, slots := 0, locals := 21 } D yc t1 t2 A (cw a yc) [.ref (a (26 + f)), .int (iI (k)), .int (iI (th))] g (fun g' => g' = (un1 g f k th)) := by
  refine start_v (cc := cX1_undoDeed) (nL := 3) (ret := none) (own := RX1) (by decide +kernel) rfl rfl (Nat.le_of_ble_eq_true rfl) ?_
  intro p e s m9 below meth c9 C
  have wstX4_isNone : Cond.static yX4_isNone ∈ wsX1_undoDeed := by decide +kernel
  have winiX4_isNone : Cond.initialized yX4_isNone.cls ∈ wsX1_undoDeed := by decide +kernel
  have wf20 : Cond.fieldLink RX1 20 (TX1 2).1 (TX1 2).2.1 (TX1 2).2.2.1 ∈ wsX1_undoDeed := by decide +kernel
  have hinX1 : ∀ w ∈ u_ws RX1 TX1 11, w ∈ wsX1_undoDeed := by decide +kernel
  have wf62 : Cond.fieldLink RX1 62 (TX0 2).1 (TX0 2).2.1 (TX0 2).2.2.1 ∈ wsX1_undoDeed := by decide +kernel
  have hinX0 : ∀ w ∈ u_ws RX0 TX0 5, w ∈ wsX1_undoDeed := by decide +kernel
  have wf47 : Cond.fieldLink RX1 47 (TX1 10).1 (TX1 10).2.1 (TX1 10).2.2.1 ∈ wsX1_undoDeed := by decide +kernel
  have wf44 : Cond.fieldLink RX1 44 (TX1 9).1 (TX1 9).2.1 (TX1 9).2.2.1 ∈ wsX1_undoDeed := by decide +kernel
  refine v_lv (lv' := [(0, .ref (a (26 + f))), (1, .int (iI (k))), (2, .int (iI (th)))]) rfl ?_
  refine v_iload_n C 1 dX1_undoDeed_0 rfl ?_
  refine v_if_ne (tgt := 17) C dX1_undoDeed_1 (by decide) (by omega) (fun c1 => ?_) (fun c1 => ?_)
  · skip
    refine v_iload_n C 1 dX1_undoDeed_17 rfl ?_
    refine v_iconst C dX1_undoDeed_18 ?_
    refine v_icmp_ne (tgt := 35) C dX1_undoDeed_19 (by decide) (by omega) (by omega) (fun c19 => ?_) (fun c19 => ?_)
    · skip
      refine v_iload_n C 2 dX1_undoDeed_35 rfl ?_
      refine v_bipush C dX1_undoDeed_36 (by decide) ?_
      refine v_cN_i C (As := [.int (iI (th)), .int (iI (6))]) (rest := []) (c_X4_isNone l D yc t1 t2 A (cw a yc) g th 6 (by omega) (by omega)) ⟨va_cnB 2 C.hts gX1_undoDeed_X4_isNone_n73 rfl rfl rfl C.hF.2.2.2.1.1 (C.hts _ winiX4_isNone) (by decide +kernel) ⟨by decide, by decide⟩, C.hts _ wstX4_isNone, trivial⟩ rfl rfl (Nat.le_of_ble_eq_true rfl) dX1_undoDeed_38 ?_
      intro r9 g9 h9
      rw [h9.1, h9.2]
      clear h9 g9 r9
      try dsimp only
      refine v_ifb_ne (tgt := 64) C dX1_undoDeed_41 (by decide) (fun c41 => ?_) (fun c41 => ?_)
      · skip
        exact v_ret_v C rfl dX1_undoDeed_64 (by unfold un1; simp [*] <;> omega)
      · skip
        refine v_aload_n C 0 dX1_undoDeed_44 rfl ?_
        refine v_getf C (by omega) (by omega) (ct_farm (by omega) (by omega)) rfl 2 (by decide) wf20 hinX1 rfl dX1_undoDeed_45 ?_
        refine v_iload_n C 2 dX1_undoDeed_48 rfl ?_
        refine v_aaload (f := fun j => 56 + 6 * f + j) C (by omega) (by omega) 2 rfl (ct_beastsA (by omega) (by omega)) (by omega) (by omega) (by decide) dX1_undoDeed_49 ?_
        refine v_iconst C dX1_undoDeed_50 ?_
        refine v_aload_n C 0 dX1_undoDeed_51 rfl ?_
        refine v_getf C (by omega) (by omega) (ct_farm (by omega) (by omega)) rfl 2 (by decide) wf20 hinX1 rfl dX1_undoDeed_52 ?_
        refine v_iload_n C 2 dX1_undoDeed_55 rfl ?_
        refine v_aaload (f := fun j => 56 + 6 * f + j) C (by omega) (by omega) 2 rfl (ct_beastsA (by omega) (by omega)) (by omega) (by omega) (by decide) dX1_undoDeed_56 ?_
        refine v_getf C (by omega) (by omega) (ct_beast (by omega) (by omega) (by omega) (by omega)) rfl 2 (by decide) wf62 hinX0 rfl dX1_undoDeed_57 ?_
        refine v_isub C dX1_undoDeed_60 ?_
        refine v_puti C (cta_L a yc) (by omega) (by omega) (ct_beast (by omega) (by omega) (by omega) (by omega)) rfl 2 (by decide) wf62 hinX0 tyX0 tyX0_ok nmX0 rfl (by decide +kernel) (by simp) (cs_beast_2 (by omega) (by omega) (by omega) (by omega)) dX1_undoDeed_61 ?_
        refine v_g (g' := (mu g (56 + 6 * f + th) (2) (1 - (g (56 + 6 * f + th) (2))))) rfl ?_
        exact v_ret_v C rfl dX1_undoDeed_64 (by unfold un1; simp [*] <;> omega)
    · skip
      refine v_aload_n C 0 dX1_undoDeed_22 rfl ?_
      refine v_dup C dX1_undoDeed_23 rfl ?_
      refine v_getf C (by omega) (by omega) (ct_farm (by omega) (by omega)) rfl 10 (by decide) wf47 hinX1 rfl dX1_undoDeed_24 ?_
      refine v_iload_n C 2 dX1_undoDeed_27 rfl ?_
      refine v_isub C dX1_undoDeed_28 ?_
      refine v_puti C (cta_L a yc) (by omega) (by omega) (ct_farm (by omega) (by omega)) rfl 10 (by decide) wf47 hinX1 tyX1 tyX1_ok nmX1 rfl (by decide +kernel) (by simp) (cs_farm_10 (by omega) (by omega)) dX1_undoDeed_29 ?_
      refine v_g (g' := (mu g (26 + f) (10) ((g (26 + f) (10)) - th))) rfl ?_
      refine v_goto (tgt := 64) C dX1_undoDeed_32 (by decide) ?_
      exact v_ret_v C rfl dX1_undoDeed_64 (by unfold un1; simp [*] <;> omega)
  · skip
    refine v_aload_n C 0 dX1_undoDeed_4 rfl ?_
    refine v_dup C dX1_undoDeed_5 rfl ?_
    refine v_getf C (by omega) (by omega) (ct_farm (by omega) (by omega)) rfl 9 (by decide) wf44 hinX1 rfl dX1_undoDeed_6 ?_
    refine v_iconst C dX1_undoDeed_9 ?_
    refine v_isub C dX1_undoDeed_10 ?_
    refine v_puti C (cta_L a yc) (by omega) (by omega) (ct_farm (by omega) (by omega)) rfl 9 (by decide) wf44 hinX1 tyX1 tyX1_ok nmX1 rfl (by decide +kernel) (by simp) (cs_farm_9 (by omega) (by omega)) dX1_undoDeed_11 ?_
    refine v_g (g' := (mu g (26 + f) (9) ((g (26 + f) (9)) - 1))) rfl ?_
    refine v_goto (tgt := 64) C dX1_undoDeed_14 (by decide) ?_
    exact v_ret_v C rfl dX1_undoDeed_64 (by unfold un1; simp [*] <;> omega)

set_option maxRecDepth 100000 in
set_option maxHeartbeats 4000000 in
theorem c_X1_undoFrom (l : Launch) (D : va_G) (yc : Nat → ClassId) (t1 t2 : Nat) (a : Int → Nat) (A : Nat → Prop) (g : Mm) (f n : Int) (hf : 0 ≤ f ∧ f < 5) (hd : 0 ≤ g (26 + f) 8 ∧ g (26 + f) 8 ≤ 60) (hn : 0 ≤ n ∧ n ≤ g (26 + f) 8) (HK : ∀ p j, R32 (g p j)) (HU : ∀ c p j, R32 (unN g f (g (26 + f) 8) c p j)) : Cv l yX1_undoFrom wsX1_undoFrom { frames := 2, cells := 0, slots := 0, locals := 43 } D yc t1 t2 A (cw a yc) [.ref (a (26 + f)), .int (iI (n))] g (fun g' => g' = (unN g f (g (26 + f) 8) (g (26 + f) 8 - n).toNat)) := by
  refine start_v (cc := cX1_undoFrom) (nL := 3) (ret := none) (own := RX1) (by decide +kernel) rfl rfl (Nat.le_of_ble_eq_true rfl) ?_
  intro p e s m9 below meth c9 C
  have wf41 : Cond.fieldLink RX1 41 (TX1 8).1 (TX1 8).2.1 (TX1 8).2.2.1 ∈ wsX1_undoFrom := by decide +kernel
  have hinX1 : ∀ w ∈ u_ws RX1 TX1 11, w ∈ wsX1_undoFrom := by decide +kernel
  have wf24 : Cond.fieldLink RX1 24 (TX1 3).1 (TX1 3).2.1 (TX1 3).2.2.1 ∈ wsX1_undoFrom := by decide +kernel
  have wf27 : Cond.fieldLink RX1 27 (TX1 4).1 (TX1 4).2.1 (TX1 4).2.2.1 ∈ wsX1_undoFrom := by decide +kernel
  refine v_lv (lv' := [(0, .ref (a (26 + f))), (1, .int (iI (n)))]) rfl ?_
  refine v_aload_n C 0 dX1_undoFrom_0 rfl ?_
  refine v_getf C (by omega) (by omega) (ct_farm (by omega) (by omega)) rfl 8 (by decide) wf41 hinX1 rfl dX1_undoFrom_1 ?_
  refine v_iconst C dX1_undoFrom_4 ?_
  refine v_isub C dX1_undoFrom_5 ?_
  refine v_istore_n (lv' := [(2, .int (iI ((g (26 + f) (8)) - 1))), (0, .ref (a (26 + f))), (1, .int (iI (n)))]) C dX1_undoFrom_6 (by decide) rfl ?_
  refine v_g (g' := (unN g f (g (26 + f) 8) (g (26 + f) 8 - 1 - (g (26 + f) 8 - 1)).toNat)) (by rw [show (g (26 + f) 8 - 1 - (g (26 + f) 8 - 1)).toNat = 0 by omega]; rfl) ?_
  refine v_lv (congrArg (fun x9 => ([(2, .int (iI x9)), (0, .ref (a (26 + f))), (1, .int (iI (n)))] : List (Nat × Value))) (show ((g (26 + f) (8)) - 1) = (((g (26 + f) 8 - 1))) by first | rfl | omega | (simp; done))) ?_
  refine v_loop1 (fun (x : Int) => (x + 1).toNat) (fun (x : Int) => n - 1 ≤ x ∧ x ≤ g (26 + f) 8 - 1) (fun (x : Int) => [(2, .int (iI (x))), (0, .ref (a (26 + f))), (1, .int (iI (n)))]) (fun (x : Int) => (unN g f (g (26 + f) 8) (g (26 + f) 8 - 1 - x).toNat)) ?_ (g (26 + f) 8 - 1) (by omega)
  intro x hI7 ih7
  try dsimp only at ih7 ⊢
  refine v_iload_n C 0 dX1_undoFrom_7 rfl ?_
  refine v_iload_n C 2 dX1_undoFrom_8 rfl ?_
  refine v_icmp_lt (tgt := 43) C dX1_undoFrom_9 (by decide) (by omega) (by omega) (fun c9 => ?_) (fun c9 => ?_)
  · skip
    exact v_ret_v C rfl dX1_undoFrom_43 (by rw [show (g (26 + f) 8 - 1 - x).toNat = (g (26 + f) 8 - n).toNat by omega])
  · skip
    refine v_iload_n C 0 dX1_undoFrom_12 rfl ?_
    refine v_if_lt (tgt := 43) C dX1_undoFrom_13 (by decide) (by omega) (fun c13 => ?_) (fun c13 => ?_)
    · exact absurd c13 (by omega)
    · skip
      refine v_aload_n C 1 dX1_undoFrom_16 rfl ?_
      refine v_aload_n C 1 dX1_undoFrom_17 rfl ?_
      refine v_getf C (by omega) (by omega) (ct_farm (by omega) (by omega)) rfl 3 (by decide) wf24 hinX1 rfl dX1_undoFrom_18 ?_
      refine v_iload_n C 0 dX1_undoFrom_21 rfl ?_
      refine v_iaload C (by omega) (by omega) (ct_dk (by omega) (by omega)) (by omega) (by omega) (by decide) dX1_undoFrom_22 ?_
      refine v_aload_n C 1 dX1_undoFrom_23 rfl ?_
      refine v_getf C (by omega) (by omega) (ct_farm (by omega) (by omega)) rfl 4 (by decide) wf27 hinX1 rfl dX1_undoFrom_24 ?_
      refine v_iload_n C 0 dX1_undoFrom_27 rfl ?_
      refine v_iaload C (by omega) (by omega) (ct_dt (by omega) (by omega)) (by omega) (by omega) (by decide) dX1_undoFrom_28 ?_
      refine v_cV_v C (As := [.int (iI ((unN g f (g (26 + f) 8) (g (26 + f) 8 - 1 - x).toNat) (46 + f) (x))), .int (iI ((unN g f (g (26 + f) 8) (g (26 + f) 8 - 1 - x).toNat) (51 + f) (x)))]) (rest := []) (c_X1_undoDeed l D yc t1 t2 a A (unN g f (g (26 + f) 8) (g (26 + f) 8 - 1 - x).toNat) f ((unN g f (g (26 + f) 8) (g (26 + f) 8 - 1 - x).toNat) (46 + f) (x)) ((unN g f (g (26 + f) 8) (g (26 + f) 8 - 1 - x).toNat) (51 + f) (x)) (by omega) (HU _ _ _) (HU _ _ _)) (cwV 2 C.hts gX1_undoFrom_X1_undoDeed rfl rfl rfl (by decide +kernel) ⟨by decide, by decide⟩) (fun H hP => va_recv C.hK hP (ci := 1) (q0 := (26 + f : Int).toNat) rfl (wo_is (by omega) (by omega) (ct_farm (by omega) (by omega)))) rfl rfl (Nat.le_of_ble_eq_true rfl) dX1_undoFrom_29 ?_
      intro g9 h9
      rw [h9]
      clear h9 g9
      try dsimp only
      refine v_aload_n C 1 dX1_undoFrom_32 rfl ?_
      refine v_iload_n C 0 dX1_undoFrom_33 rfl ?_
      refine v_puti C (cta_L a yc) (by omega) (by omega) (ct_farm (by omega) (by omega)) rfl 8 (by decide) wf41 hinX1 tyX1 tyX1_ok nmX1 rfl (by decide +kernel) (by simp) (cs_farm_8 (by omega) (by omega)) dX1_undoFrom_34 ?_
      refine v_g (g' := (mu ((un1 ((unN g f (g (26 + f) 8) (g (26 + f) 8 - 1 - x).toNat)) f ((unN g f (g (26 + f) 8) (g (26 + f) 8 - 1 - x).toNat) (46 + f) (x)) ((unN g f (g (26 + f) 8) (g (26 + f) 8 - 1 - x).toNat) (51 + f) (x)))) (26 + f) (8) (x))) rfl ?_
      refine v_iinc (z' := x - 1) (lv' := [(2, .int (iI (x - 1))), (0, .ref (a (26 + f))), (1, .int (iI (n)))]) C 0 dX1_undoFrom_37 rfl (by omega) (by decide) rfl ?_
      refine v_goto (tgt := 7) C dX1_undoFrom_40 (by decide) ?_
      exact v_g (by rw [show (g (26 + f) 8 - 1 - (x - 1)).toNat = (g (26 + f) 8 - 1 - x).toNat + 1 by omega]; show _ = mu _ _ _ _; rw [show g (26 + f) 8 - 1 - ((g (26 + f) 8 - 1 - x).toNat : Int) = x by omega]) (ih7 (x - 1) (by omega) (by omega))

set_option maxRecDepth 100000 in
set_option maxHeartbeats 4000000 in
theorem c_X1_leadUpTo (l : Launch) (D : va_G) (yc : Nat → ClassId) (t1 t2 : Nat) (a : Int → Nat) (A : Nat → Prop) (g : Mm) (f d : Int) (F : Int → Int) (hf : 0 ≤ f ∧ f < 5) (HF : FR g f F) (HI : FI F) (ht : 0 < F 1 ∧ 0 < F 2) (hd : -1 ≤ d ∧ d < 100000) : Ci l yX1_leadUpTo wsX1_leadUpTo { frames := 2, cells := 0, slots := 0, locals := 42 } D yc t1 t2 A (cw a yc) [.ref (a (26 + f)), .int (iI (d))] g (fun r9 g' => r9 = (iI (sI (ld F) (d + 1))) ∧ g' = g) := by
  refine start_i (cc := cX1_leadUpTo) (nL := 4) (ret := (some .int)) (own := RX1) (by decide +kernel) rfl rfl (Nat.le_of_ble_eq_true rfl) ?_
  intro p e s m9 below meth c9 C
  have hn := HI.n
  refine v_lv (lv' := [(0, .ref (a (26 + f))), (1, .int (iI (d)))]) rfl ?_
  refine v_iconst C dX1_leadUpTo_0 ?_
  refine v_istore_n (lv' := [(2, .int (iI (0))), (0, .ref (a (26 + f))), (1, .int (iI (d)))]) C dX1_leadUpTo_1 (by decide) rfl ?_
  refine v_iconst C dX1_leadUpTo_2 ?_
  refine v_istore_n (lv' := [(3, .int (iI (0))), (2, .int (iI (0))), (0, .ref (a (26 + f))), (1, .int (iI (d)))]) C dX1_leadUpTo_3 (by decide) rfl ?_
  refine v_lv (congrArg (fun x9 => ([(3, .int (iI (0))), (2, .int (iI x9)), (0, .ref (a (26 + f))), (1, .int (iI (d)))] : List (Nat × Value))) (show (0) = (sI (ld F) 0) by first | rfl | omega | (simp; done))) ?_
  refine v_loop1 (fun (t : Int) => (d + 1 - t).toNat) (fun (t : Int) => 0 ≤ t ∧ t ≤ d + 1) (fun (t : Int) => [(3, .int (iI (t))), (2, .int (iI (sI (ld F) t))), (0, .ref (a (26 + f))), (1, .int (iI (d)))]) (fun (t : Int) => g) ?_ 0 (by omega)
  intro t hI4 ih4
  try dsimp only at ih4 ⊢
  refine v_iload_n C 0 dX1_leadUpTo_4 rfl ?_
  refine v_iload_n C 3 dX1_leadUpTo_5 rfl ?_
  refine v_icmp_gt (tgt := 23) C dX1_leadUpTo_6 (by decide) (by omega) (by omega) (fun c6 => ?_) (fun c6 => ?_)
  · skip
    refine v_iload_n C 1 dX1_leadUpTo_23 rfl ?_
    exact v_ret_i C rfl dX1_leadUpTo_24 ⟨(by rw [show t = d + 1 by omega]), rfl⟩
  · skip
    refine v_iload_n C 1 dX1_leadUpTo_9 rfl ?_
    refine v_aload_n C 2 dX1_leadUpTo_10 rfl ?_
    refine v_iload_n C 0 dX1_leadUpTo_11 rfl ?_
    refine v_cV_i C (As := [.int (iI (t))]) (rest := [.int (iI (sI (ld F) t))]) (c_X1_leadOn l D yc t1 t2 a A g f t F (by omega) HF HI (by omega) (by omega)) (cwV 1 C.hts gX1_leadUpTo_X1_leadOn rfl rfl rfl (by decide +kernel) ⟨by decide, by decide⟩) (fun H hP => va_recv C.hK hP (ci := 1) (q0 := (26 + f : Int).toNat) rfl (wo_is (by omega) (by omega) (ct_farm (by omega) (by omega)))) rfl rfl (Nat.le_of_ble_eq_true rfl) dX1_leadUpTo_12 ?_
    intro r9 g9 h9
    rw [h9.1, h9.2]
    clear h9 g9 r9
    try dsimp only
    refine v_iadd C dX1_leadUpTo_15 ?_
    refine v_istore_n (lv' := [(2, .int (iI ((sI (ld F) t) + (if fOn F t = 0 then mOn F t else -mOn F t)))), (3, .int (iI (t))), (0, .ref (a (26 + f))), (1, .int (iI (d)))]) C dX1_leadUpTo_16 (by decide) rfl ?_
    refine v_iinc (z' := t + 1) (lv' := [(3, .int (iI (t + 1))), (2, .int (iI ((sI (ld F) t) + (if fOn F t = 0 then mOn F t else -mOn F t)))), (0, .ref (a (26 + f))), (1, .int (iI (d)))]) C 1 dX1_leadUpTo_17 rfl (by omega) (by decide) rfl ?_
    refine v_goto (tgt := 4) C dX1_leadUpTo_20 (by decide) ?_
    refine v_lv (congrArg (fun x9 => ([(3, .int (iI (t + 1))), (2, .int (iI x9)), (0, .ref (a (26 + f))), (1, .int (iI (d)))] : List (Nat × Value))) (show ((sI (ld F) t) + (if fOn F t = 0 then mOn F t else -mOn F t)) = (sI (ld F) (t + 1)) by first | rfl | (exact (sI_s _ (by omega)).symm))) ?_
    exact ih4 (t + 1) (by omega) (by omega)

set_option maxRecDepth 100000 in
set_option maxHeartbeats 4000000 in
theorem c_X1_milkOf (l : Launch) (D : va_G) (yc : Nat → ClassId) (t1 t2 : Nat) (a : Int → Nat) (A : Nat → Prop) (g : Mm) (f q b d : Int) (F : Int → Int) (hf : 0 ≤ f ∧ f < 5) (HF : FR g f F) (HI : FI F) (ht : 0 < F 1 ∧ 0 < F 2) (hb : 0 ≤ b ∧ b ≤ d + 1) (hd : d < 100000) (hq : R32 q) : Ci l yX1_milkOf wsX1_milkOf { frames := 1, cells := 0, slots := 0, locals := 21 } D yc t1 t2 A (cw a yc) [.ref (a (26 + f)), .int (iI (q)), .int (iI (b)), .int (iI (d))] g (fun r9 g' => r9 = (iI (sI (fun x => mf F q (b + x)) (d + 1 - b))) ∧ g' = g) := by
  refine start_i (cc := cX1_milkOf) (nL := 6) (ret := (some .int)) (own := RX1) (by decide +kernel) rfl rfl (Nat.le_of_ble_eq_true rfl) ?_
  intro p e s m9 below meth c9 C
  have hn := HI.n
  refine v_lv (lv' := [(0, .ref (a (26 + f))), (1, .int (iI (q))), (2, .int (iI (b))), (3, .int (iI (d)))]) rfl ?_
  refine v_iconst C dX1_milkOf_0 ?_
  refine v_istore (lv' := [(4, .int (iI (0))), (0, .ref (a (26 + f))), (1, .int (iI (q))), (2, .int (iI (b))), (3, .int (iI (d)))]) C dX1_milkOf_1 (by decide) rfl ?_
  refine v_iload_n C 3 dX1_milkOf_3 rfl ?_
  refine v_istore (lv' := [(5, .int (iI (b))), (4, .int (iI (0))), (0, .ref (a (26 + f))), (1, .int (iI (q))), (2, .int (iI (b))), (3, .int (iI (d)))]) C dX1_milkOf_4 (by decide) rfl ?_
  refine v_lv (congrArg (fun x9 => ([(5, .int (iI x9)), (4, .int (iI (0))), (0, .ref (a (26 + f))), (1, .int (iI (q))), (2, .int (iI (b))), (3, .int (iI (d)))] : List (Nat × Value))) (show (b) = (b + 0) by first | rfl | omega | (simp; done))) ?_
  refine v_lv (congrArg (fun x9 => ([(5, .int (iI (b + 0))), (4, .int (iI x9)), (0, .ref (a (26 + f))), (1, .int (iI (q))), (2, .int (iI (b))), (3, .int (iI (d)))] : List (Nat × Value))) (show (0) = (sI (fun x => mf F q (b + x)) 0) by first | rfl | omega | (simp; done))) ?_
  refine v_loop1 (fun (t : Int) => (d + 1 - b - t).toNat) (fun (t : Int) => 0 ≤ t ∧ t ≤ d + 1 - b) (fun (t : Int) => [(5, .int (iI (b + t))), (4, .int (iI (sI (fun x => mf F q (b + x)) t))), (0, .ref (a (26 + f))), (1, .int (iI (q))), (2, .int (iI (b))), (3, .int (iI (d)))]) (fun (t : Int) => g) ?_ 0 (by omega)
  intro t hI6 ih6
  try dsimp only at ih6 ⊢
  refine v_iload C 0 dX1_milkOf_6 rfl ?_
  refine v_iload_n C 5 dX1_milkOf_8 rfl ?_
  refine v_icmp_gt (tgt := 39) C dX1_milkOf_9 (by decide) (by omega) (by omega) (fun c9 => ?_) (fun c9 => ?_)
  · skip
    refine v_iload C 1 dX1_milkOf_39 rfl ?_
    exact v_ret_i C rfl dX1_milkOf_41 ⟨(by rw [show t = d + 1 - b by omega]), rfl⟩
  · skip
    refine v_aload_n C 2 dX1_milkOf_12 rfl ?_
    refine v_iload C 0 dX1_milkOf_13 rfl ?_
    refine v_cV_i C (As := [.int (iI (b + t))]) (rest := []) (c_X1_farmOn l D yc t1 t2 a A g f (b + t) F (by omega) HF HI (by omega) (by omega)) (cwV 1 C.hts gX1_milkOf_X1_farmOn rfl rfl rfl (by decide +kernel) ⟨by decide, by decide⟩) (fun H hP => va_recv C.hK hP (ci := 1) (q0 := (26 + f : Int).toNat) rfl (wo_is (by omega) (by omega) (ct_farm (by omega) (by omega)))) rfl rfl (Nat.le_of_ble_eq_true rfl) dX1_milkOf_15 ?_
    intro r9 g9 h9
    rw [h9.1, h9.2]
    clear h9 g9 r9
    try dsimp only
    have h01 := fOn01 HI ht.1 (b + t)
    refine v_iload_n C 3 dX1_milkOf_18 rfl ?_
    refine v_icmp_ne (tgt := 33) C dX1_milkOf_19 (by decide) (by omega) (by omega) (fun c19 => ?_) (fun c19 => ?_)
    · skip
      refine v_iinc (z' := b + t + 1) (lv' := [(5, .int (iI (b + t + 1))), (4, .int (iI (sI (fun x => mf F q (b + x)) t))), (0, .ref (a (26 + f))), (1, .int (iI (q))), (2, .int (iI (b))), (3, .int (iI (d)))]) C 0 dX1_milkOf_33 rfl (by omega) (by decide) rfl ?_
      refine v_goto (tgt := 6) C dX1_milkOf_36 (by decide) ?_
      refine v_lv (congrArg (fun x9 => ([(5, .int (iI x9)), (4, .int (iI (sI (fun x => mf F q (b + x)) t))), (0, .ref (a (26 + f))), (1, .int (iI (q))), (2, .int (iI (b))), (3, .int (iI (d)))] : List (Nat × Value))) (show (b + t + 1) = (b + (t + 1)) by first | rfl | (omega))) ?_
      refine v_lv (congrArg (fun x9 => ([(5, .int (iI (b + (t + 1)))), (4, .int (iI x9)), (0, .ref (a (26 + f))), (1, .int (iI (q))), (2, .int (iI (b))), (3, .int (iI (d)))] : List (Nat × Value))) (show (sI (fun x => mf F q (b + x)) t) = (sI (fun x => mf F q (b + x)) (t + 1)) by first | rfl | (rw [sI_s _ (by omega)]; simp [mf, *]))) ?_
      exact ih6 (t + 1) (by omega) (by omega)
    · skip
      refine v_iload C 1 dX1_milkOf_22 rfl ?_
      refine v_aload_n C 2 dX1_milkOf_24 rfl ?_
      refine v_iload C 0 dX1_milkOf_25 rfl ?_
      refine v_cV_i C (As := [.int (iI (b + t))]) (rest := [.int (iI (sI (fun x => mf F q (b + x)) t))]) (c_X1_milkOn l D yc t1 t2 a A g f (b + t) F (by omega) HF HI (by omega) (by omega)) (cwV 1 C.hts gX1_milkOf_X1_milkOn rfl rfl rfl (by decide +kernel) ⟨by decide, by decide⟩) (fun H hP => va_recv C.hK hP (ci := 1) (q0 := (26 + f : Int).toNat) rfl (wo_is (by omega) (by omega) (ct_farm (by omega) (by omega)))) rfl rfl (Nat.le_of_ble_eq_true rfl) dX1_milkOf_27 ?_
      intro r9 g9 h9
      rw [h9.1, h9.2]
      clear h9 g9 r9
      try dsimp only
      refine v_iadd C dX1_milkOf_30 ?_
      refine v_istore (lv' := [(4, .int (iI ((sI (fun x => mf F q (b + x)) t) + (mOn F (b + t))))), (5, .int (iI (b + t))), (0, .ref (a (26 + f))), (1, .int (iI (q))), (2, .int (iI (b))), (3, .int (iI (d)))]) C dX1_milkOf_31 (by decide) rfl ?_
      refine v_iinc (z' := b + t + 1) (lv' := [(5, .int (iI (b + t + 1))), (4, .int (iI ((sI (fun x => mf F q (b + x)) t) + (mOn F (b + t))))), (0, .ref (a (26 + f))), (1, .int (iI (q))), (2, .int (iI (b))), (3, .int (iI (d)))]) C 1 dX1_milkOf_33 rfl (by omega) (by decide) rfl ?_
      refine v_goto (tgt := 6) C dX1_milkOf_36 (by decide) ?_
      refine v_lv (congrArg (fun x9 => ([(5, .int (iI x9)), (4, .int (iI ((sI (fun x => mf F q (b + x)) t) + (mOn F (b + t))))), (0, .ref (a (26 + f))), (1, .int (iI (q))), (2, .int (iI (b))), (3, .int (iI (d)))] : List (Nat × Value))) (show (b + t + 1) = (b + (t + 1)) by first | rfl | (omega))) ?_
      refine v_lv (congrArg (fun x9 => ([(5, .int (iI (b + (t + 1)))), (4, .int (iI x9)), (0, .ref (a (26 + f))), (1, .int (iI (q))), (2, .int (iI (b))), (3, .int (iI (d)))] : List (Nat × Value))) (show ((sI (fun x => mf F q (b + x)) t) + (mOn F (b + t))) = (sI (fun x => mf F q (b + x)) (t + 1)) by first | rfl | (rw [sI_s _ (by omega)]; simp [mf, *]))) ?_
      exact ih6 (t + 1) (by omega) (by omega)

set_option maxRecDepth 100000 in
set_option maxHeartbeats 4000000 in
theorem c_X1_farmWalkedToBehind (l : Launch) (D : va_G) (yc : Nat → ClassId) (t1 t2 : Nat) (a : Int → Nat) (A : Nat → Prop) (g : Mm) (f d : Int) (F : Int → Int) (hf : 0 ≤ f ∧ f < 5) (HF : FR g f F) (HI : FI F) (ht : 0 < F 1) (hd : 0 ≤ d ∧ d < 100000) : Ci l yX1_farmWalkedToBehind wsX1_farmWalkedToBehind { frames := 1, cells := 0, slots := 0, locals := 21 } D yc t1 t2 A (cw a yc) [.ref (a (26 + f)), .int (iI (d))] g (fun r9 g' => r9 = (iI (if sI (fun j => if F (6 + j) = fOn F d then 0 else 1) (F 1) = 0 then -9 else 1 - fOn F d)) ∧ g' = g) := by
  refine start_i (cc := cX1_farmWalkedToBehind) (nL := 4) (ret := (some .int)) (own := RX1) (by decide +kernel) rfl rfl (Nat.le_of_ble_eq_true rfl) ?_
  intro p e s m9 below meth c9 C
  have wf35 : Cond.fieldLink RX1 35 (TX1 5).1 (TX1 5).2.1 (TX1 5).2.2.1 ∈ wsX1_farmWalkedToBehind := by decide +kernel
  have hinX1 : ∀ w ∈ u_ws RX1 TX1 11, w ∈ wsX1_farmWalkedToBehind := by decide +kernel
  have wf9 : Cond.fieldLink RX1 9 (TX1 0).1 (TX1 0).2.1 (TX1 0).2.2.1 ∈ wsX1_farmWalkedToBehind := by decide +kernel
  have hn := HI.n
  have h01 := fOn01 HI ht d
  refine v_lv (lv' := [(0, .ref (a (26 + f))), (1, .int (iI (d)))]) rfl ?_
  refine v_aload_n C 0 dX1_farmWalkedToBehind_0 rfl ?_
  refine v_iload_n C 1 dX1_farmWalkedToBehind_1 rfl ?_
  refine v_cV_i C (As := [.int (iI (d))]) (rest := []) (c_X1_farmOn l D yc t1 t2 a A g f d F (by omega) HF HI (by omega) (by omega)) (cwV 1 C.hts gX1_farmWalkedToBehind_X1_farmOn rfl rfl rfl (by decide +kernel) ⟨by decide, by decide⟩) (fun H hP => va_recv C.hK hP (ci := 1) (q0 := (26 + f : Int).toNat) rfl (wo_is (by omega) (by omega) (ct_farm (by omega) (by omega)))) rfl rfl (Nat.le_of_ble_eq_true rfl) dX1_farmWalkedToBehind_2 ?_
  intro r9 g9 h9
  rw [h9.1, h9.2]
  clear h9 g9 r9
  try dsimp only
  refine v_istore_n (lv' := [(2, .int (iI (fOn F d))), (0, .ref (a (26 + f))), (1, .int (iI (d)))]) C dX1_farmWalkedToBehind_5 (by decide) rfl ?_
  refine v_iconst C dX1_farmWalkedToBehind_6 ?_
  refine v_istore_n (lv' := [(3, .int (iI (0))), (2, .int (iI (fOn F d))), (0, .ref (a (26 + f))), (1, .int (iI (d)))]) C dX1_farmWalkedToBehind_7 (by decide) rfl ?_
  refine v_loop1 (fun (t : Int) => (F 1 - t).toNat) (fun (t : Int) => 0 ≤ t ∧ t ≤ F 1 ∧ sI (fun j => if F (6 + j) = fOn F d then 0 else 1) t = 0) (fun (t : Int) => [(3, .int (iI (t))), (2, .int (iI (fOn F d))), (0, .ref (a (26 + f))), (1, .int (iI (d)))]) (fun (t : Int) => g) ?_ 0 ⟨by omega, by omega, sI_0 _⟩
  intro t hI8 ih8
  try dsimp only at ih8 ⊢
  refine v_iload_n C 0 dX1_farmWalkedToBehind_8 rfl ?_
  refine v_aload_n C 2 dX1_farmWalkedToBehind_9 rfl ?_
  refine v_getf C (by omega) (by omega) (ct_farm (by omega) (by omega)) rfl 5 (by decide) wf35 hinX1 rfl dX1_farmWalkedToBehind_10 ?_
  refine v_st (st' := [.int (iI (F 1)), .int (iI (t))]) (by rw [HF.tc]) ?_
  refine v_icmp_ge (tgt := 39) C dX1_farmWalkedToBehind_13 (by decide) (by omega) (by omega) (fun c13 => ?_) (fun c13 => ?_)
  · skip
    refine v_bipush C dX1_farmWalkedToBehind_39 (by decide) ?_
    exact v_ret_i C rfl dX1_farmWalkedToBehind_41 ⟨(by rw [show t = F 1 by omega] at hI8; rw [if_pos hI8.2.2]), rfl⟩
  · skip
    refine v_aload_n C 2 dX1_farmWalkedToBehind_16 rfl ?_
    refine v_getf C (by omega) (by omega) (ct_farm (by omega) (by omega)) rfl 0 (by decide) wf9 hinX1 rfl dX1_farmWalkedToBehind_17 ?_
    refine v_iload_n C 0 dX1_farmWalkedToBehind_20 rfl ?_
    refine v_iaload C (by omega) (by omega) (ct_turns (by omega) (by omega)) (by omega) (by omega) (by decide) dX1_farmWalkedToBehind_21 ?_
    refine v_st (st' := [.int (iI (F (6 + t)))]) (by rw [HF.tn (by omega) (by omega)]) ?_
    have h02 := HI.t (j := t) (by omega) (by omega)
    refine v_iload_n C 1 dX1_farmWalkedToBehind_22 rfl ?_
    refine v_icmp_eq (tgt := 33) C dX1_farmWalkedToBehind_23 (by decide) (by omega) (by omega) (fun c23 => ?_) (fun c23 => ?_)
    · skip
      refine v_iinc (z' := t + 1) (lv' := [(3, .int (iI (t + 1))), (2, .int (iI (fOn F d))), (0, .ref (a (26 + f))), (1, .int (iI (d)))]) C 0 dX1_farmWalkedToBehind_33 rfl (by omega) (by decide) rfl ?_
      refine v_goto (tgt := 8) C dX1_farmWalkedToBehind_36 (by decide) ?_
      exact ih8 (t + 1) ⟨by omega, by omega, by rw [sI_s _ (by omega)]; simp [*]⟩ (by omega)
    · skip
      refine v_aload_n C 2 dX1_farmWalkedToBehind_26 rfl ?_
      refine v_getf C (by omega) (by omega) (ct_farm (by omega) (by omega)) rfl 0 (by decide) wf9 hinX1 rfl dX1_farmWalkedToBehind_27 ?_
      refine v_iload_n C 0 dX1_farmWalkedToBehind_30 rfl ?_
      refine v_iaload C (by omega) (by omega) (ct_turns (by omega) (by omega)) (by omega) (by omega) (by decide) dX1_farmWalkedToBehind_31 ?_
      refine v_st (st' := [.int (iI (F (6 + t)))]) (by rw [HF.tn (by omega) (by omega)]) ?_
      exact v_ret_i C rfl dX1_farmWalkedToBehind_32 ⟨(by
      have h1 := sI_mono (h := fun j => if F (6 + j) = fOn F d then 0 else 1) (t := t + 1) (n := F 1) (by omega) (by omega) (fun e _ _ => by split <;> omega)
      rw [sI_s _ (by omega), hI8.2.2, if_neg c23] at h1
      rw [if_neg (by omega)]
      congr 1; omega), rfl⟩

set_option maxRecDepth 100000 in
set_option maxHeartbeats 4000000 in
theorem c_X1_allBeasts (l : Launch) (D : va_G) (yc : Nat → ClassId) (t1 t2 : Nat) (a : Int → Nat) (A : Nat → Prop) (g : Mm) (f : Int) (F : Int → Int) (hf : 0 ≤ f ∧ f < 5) (HF : FR g f F) (HI : FI F) : Ci l yX1_allBeasts wsX1_allBeasts { frames := 0, cells := 0, slots := 0, locals := 0 } D yc t1 t2 A (cw a yc) [.ref (a (26 + f))] g (fun r9 g' => r9 = (iI (pw (F 0) - 1)) ∧ g' = g) := by
  refine start_i (cc := cX1_allBeasts) (nL := 1) (ret := (some .int)) (own := RX1) (by decide +kernel) rfl rfl (Nat.le_of_ble_eq_true rfl) ?_
  intro p e s m9 below meth c9 C
  have wf31 : Cond.fieldLink RX1 31 (TX1 7).1 (TX1 7).2.1 (TX1 7).2.2.1 ∈ wsX1_allBeasts := by decide +kernel
  have hinX1 : ∀ w ∈ u_ws RX1 TX1 11, w ∈ wsX1_allBeasts := by decide +kernel
  have hn := HI.n
  refine v_lv (lv' := [(0, .ref (a (26 + f)))]) rfl ?_
  refine v_iconst C dX1_allBeasts_0 ?_
  refine v_aload_n C 0 dX1_allBeasts_1 rfl ?_
  refine v_getf C (by omega) (by omega) (ct_farm (by omega) (by omega)) rfl 7 (by decide) wf31 hinX1 rfl dX1_allBeasts_2 ?_
  refine v_st (st' := [.int (iI (F 0)), .int (iI (1))]) (by rw [HF.bc]) ?_
  refine v_ishl (z := (iI (pw (F 0)))) C dX1_allBeasts_5 (shl_1 (by omega) (by omega)) ?_
  refine v_iconst C dX1_allBeasts_6 ?_
  refine v_isub C dX1_allBeasts_7 ?_
  exact v_ret_i C rfl dX1_allBeasts_8 ⟨rfl, rfl⟩

set_option maxRecDepth 100000 in
set_option maxHeartbeats 4000000 in
theorem c_X1_setOf (l : Launch) (D : va_G) (yc : Nat → ClassId) (t1 t2 : Nat) (a : Int → Nat) (A : Nat → Prop) (g : Mm) (f q : Int) (F : Int → Int) (hf : 0 ≤ f ∧ f < 5) (HF : FR g f F) (HI : FI F) (hq : R32 q) : Ci l yX1_setOf wsX1_setOf { frames := 0, cells := 0, slots := 0, locals := 0 } D yc t1 t2 A (cw a yc) [.ref (a (26 + f)), .int (iI (q))] g (fun r9 g' => r9 = (iI (so F q (F 0))) ∧ g' = g) := by
  refine start_i (cc := cX1_setOf) (nL := 4) (ret := (some .int)) (own := RX1) (by decide +kernel) rfl rfl (Nat.le_of_ble_eq_true rfl) ?_
  intro p e s m9 below meth c9 C
  have wf31 : Cond.fieldLink RX1 31 (TX1 7).1 (TX1 7).2.1 (TX1 7).2.2.1 ∈ wsX1_setOf := by decide +kernel
  have hinX1 : ∀ w ∈ u_ws RX1 TX1 11, w ∈ wsX1_setOf := by decide +kernel
  have wf20 : Cond.fieldLink RX1 20 (TX1 2).1 (TX1 2).2.1 (TX1 2).2.2.1 ∈ wsX1_setOf := by decide +kernel
  have wf62 : Cond.fieldLink RX1 62 (TX0 2).1 (TX0 2).2.1 (TX0 2).2.2.1 ∈ wsX1_setOf := by decide +kernel
  have hinX0 : ∀ w ∈ u_ws RX0 TX0 5, w ∈ wsX1_setOf := by decide +kernel
  have hn := HI.n
  refine v_lv (lv' := [(0, .ref (a (26 + f))), (1, .int (iI (q)))]) rfl ?_
  refine v_iconst C dX1_setOf_0 ?_
  refine v_istore_n (lv' := [(2, .int (iI (0))), (0, .ref (a (26 + f))), (1, .int (iI (q)))]) C dX1_setOf_1 (by decide) rfl ?_
  refine v_iconst C dX1_setOf_2 ?_
  refine v_istore_n (lv' := [(3, .int (iI (0))), (2, .int (iI (0))), (0, .ref (a (26 + f))), (1, .int (iI (q)))]) C dX1_setOf_3 (by decide) rfl ?_
  refine v_lv (congrArg (fun x9 => ([(3, .int (iI (0))), (2, .int (iI x9)), (0, .ref (a (26 + f))), (1, .int (iI (q)))] : List (Nat × Value))) (show (0) = (so F q 0) by first | rfl | omega | (simp; done))) ?_
  refine v_loop1 (fun (t : Int) => (F 0 - t).toNat) (fun (t : Int) => 0 ≤ t ∧ t ≤ F 0) (fun (t : Int) => [(3, .int (iI (t))), (2, .int (iI (so F q t))), (0, .ref (a (26 + f))), (1, .int (iI (q)))]) (fun (t : Int) => g) ?_ 0 (by omega)
  intro t hI4 ih4
  try dsimp only at ih4 ⊢
  refine v_iload_n C 0 dX1_setOf_4 rfl ?_
  refine v_aload_n C 2 dX1_setOf_5 rfl ?_
  refine v_getf C (by omega) (by omega) (ct_farm (by omega) (by omega)) rfl 7 (by decide) wf31 hinX1 rfl dX1_setOf_6 ?_
  refine v_st (st' := [.int (iI (F 0)), .int (iI (t))]) (by rw [HF.bc]) ?_
  refine v_icmp_ge (tgt := 37) C dX1_setOf_9 (by decide) (by omega) (by omega) (fun c9 => ?_) (fun c9 => ?_)
  · skip
    refine v_iload_n C 1 dX1_setOf_37 rfl ?_
    exact v_ret_i C rfl dX1_setOf_38 ⟨(by rw [show t = F 0 by omega]), rfl⟩
  · skip
    refine v_aload_n C 2 dX1_setOf_12 rfl ?_
    refine v_getf C (by omega) (by omega) (ct_farm (by omega) (by omega)) rfl 2 (by decide) wf20 hinX1 rfl dX1_setOf_13 ?_
    refine v_iload_n C 0 dX1_setOf_16 rfl ?_
    refine v_aaload (f := fun j => 56 + 6 * f + j) C (by omega) (by omega) 2 rfl (ct_beastsA (by omega) (by omega)) (by omega) (by omega) (by decide) dX1_setOf_17 ?_
    have hb := HI.b (i := t) (by omega) (by omega)
    refine v_getf C (by omega) (by omega) (ct_beast (by omega) (by omega) (by omega) (by omega)) rfl 2 (by decide) wf62 hinX0 rfl dX1_setOf_18 ?_
    refine v_st (st' := [.int (iI (F (20 + 3 * t + 2)))]) (by rw [(HF.bs (i := t) (by omega) (by omega)).2.2.1]) ?_
    refine v_iload_n C 3 dX1_setOf_21 rfl ?_
    refine v_icmp_ne (tgt := 31) C dX1_setOf_22 (by decide) (by omega) (by omega) (fun c22 => ?_) (fun c22 => ?_)
    · skip
      refine v_iinc (z' := t + 1) (lv' := [(3, .int (iI (t + 1))), (2, .int (iI (so F q t))), (0, .ref (a (26 + f))), (1, .int (iI (q)))]) C 0 dX1_setOf_31 rfl (by omega) (by decide) rfl ?_
      refine v_goto (tgt := 4) C dX1_setOf_34 (by decide) ?_
      refine v_lv (congrArg (fun x9 => ([(3, .int (iI (t + 1))), (2, .int (iI x9)), (0, .ref (a (26 + f))), (1, .int (iI (q)))] : List (Nat × Value))) (show (so F q t) = (so F q (t + 1)) by first | rfl | (rw [so_s F q (by omega)]; simp [*]))) ?_
      exact ih4 (t + 1) (by omega) (by omega)
    · skip
      refine v_iload_n C 1 dX1_setOf_25 rfl ?_
      refine v_iconst C dX1_setOf_26 ?_
      refine v_iload_n C 0 dX1_setOf_27 rfl ?_
      refine v_ishl (z := (iI (pw t))) C dX1_setOf_28 (shl_1 (by omega) (by omega)) ?_
      refine v_ior (z := (iI (so F q t + pw t))) C dX1_setOf_29 (or_pw (so_bd F q (by omega)).1 (so_bd F q (by omega)).2 (by omega)) ?_
      refine v_istore_n (lv' := [(2, .int (iI (so F q t + pw t))), (3, .int (iI (t))), (0, .ref (a (26 + f))), (1, .int (iI (q)))]) C dX1_setOf_30 (by decide) rfl ?_
      refine v_iinc (z' := t + 1) (lv' := [(3, .int (iI (t + 1))), (2, .int (iI (so F q t + pw t))), (0, .ref (a (26 + f))), (1, .int (iI (q)))]) C 1 dX1_setOf_31 rfl (by omega) (by decide) rfl ?_
      refine v_goto (tgt := 4) C dX1_setOf_34 (by decide) ?_
      refine v_lv (congrArg (fun x9 => ([(3, .int (iI (t + 1))), (2, .int (iI x9)), (0, .ref (a (26 + f))), (1, .int (iI (q)))] : List (Nat × Value))) (show (so F q t + pw t) = (so F q (t + 1)) by first | rfl | (rw [so_s F q (by omega)]; simp [*]))) ?_
      exact ih4 (t + 1) (by omega) (by omega)

set_option maxRecDepth 100000 in
set_option maxHeartbeats 4000000 in
theorem c_X1_valueOfSet (l : Launch) (D : va_G) (yc : Nat → ClassId) (t1 t2 : Nat) (a : Int → Nat) (A : Nat → Prop) (g : Mm) (f se q : Int) (F : Int → Int) (hf : 0 ≤ f ∧ f < 5) (HF : FR g f F) (HI : FI F) (hq : 0 ≤ q ∧ q ≤ 1) (hs : 0 ≤ se ∧ se < 1000000) : Ci l yX1_valueOfSet wsX1_valueOfSet { frames := 1, cells := 0, slots := 0, locals := 21 } D yc t1 t2 A (cw a yc) [.ref (a (26 + f)), .int (iI (se)), .int (iI (q))] g (fun r9 g' => r9 = (iI (VB F se 1 q)) ∧ g' = g) := by
  refine start_i (cc := cX1_valueOfSet) (nL := 5) (ret := (some .int)) (own := RX1) (by decide +kernel) rfl rfl (Nat.le_of_ble_eq_true rfl) ?_
  intro p e s m9 below meth c9 C
  have wf31 : Cond.fieldLink RX1 31 (TX1 7).1 (TX1 7).2.1 (TX1 7).2.2.1 ∈ wsX1_valueOfSet := by decide +kernel
  have hinX1 : ∀ w ∈ u_ws RX1 TX1 11, w ∈ wsX1_valueOfSet := by decide +kernel
  have wf20 : Cond.fieldLink RX1 20 (TX1 2).1 (TX1 2).2.1 (TX1 2).2.2.1 ∈ wsX1_valueOfSet := by decide +kernel
  have hn := HI.n
  refine v_lv (lv' := [(0, .ref (a (26 + f))), (1, .int (iI (se))), (2, .int (iI (q)))]) rfl ?_
  refine v_iconst C dX1_valueOfSet_0 ?_
  refine v_istore_n (lv' := [(3, .int (iI (0))), (0, .ref (a (26 + f))), (1, .int (iI (se))), (2, .int (iI (q)))]) C dX1_valueOfSet_1 (by decide) rfl ?_
  refine v_iconst C dX1_valueOfSet_2 ?_
  refine v_istore (lv' := [(4, .int (iI (0))), (3, .int (iI (0))), (0, .ref (a (26 + f))), (1, .int (iI (se))), (2, .int (iI (q)))]) C dX1_valueOfSet_3 (by decide) rfl ?_
  refine v_lv (congrArg (fun x9 => ([(4, .int (iI (0))), (3, .int (iI x9)), (0, .ref (a (26 + f))), (1, .int (iI (se))), (2, .int (iI (q)))] : List (Nat × Value))) (show (0) = (sI (fun i => if bt se i = 1 then vT F i q else 0) 0) by first | rfl | omega | (simp; done))) ?_
  refine v_loop1 (fun (t : Int) => (F 0 - t).toNat) (fun (t : Int) => 0 ≤ t ∧ t ≤ F 0) (fun (t : Int) => [(4, .int (iI (t))), (3, .int (iI (sI (fun i => if bt se i = 1 then vT F i q else 0) t))), (0, .ref (a (26 + f))), (1, .int (iI (se))), (2, .int (iI (q)))]) (fun (t : Int) => g) ?_ 0 (by omega)
  intro t hI5 ih5
  try dsimp only at ih5 ⊢
  refine v_iload C 0 dX1_valueOfSet_5 rfl ?_
  refine v_aload_n C 2 dX1_valueOfSet_7 rfl ?_
  refine v_getf C (by omega) (by omega) (ct_farm (by omega) (by omega)) rfl 7 (by decide) wf31 hinX1 rfl dX1_valueOfSet_8 ?_
  refine v_st (st' := [.int (iI (F 0)), .int (iI (t))]) (by rw [HF.bc]) ?_
  refine v_icmp_ge (tgt := 43) C dX1_valueOfSet_11 (by decide) (by omega) (by omega) (fun c11 => ?_) (fun c11 => ?_)
  · skip
    refine v_iload_n C 1 dX1_valueOfSet_43 rfl ?_
    exact v_ret_i C rfl dX1_valueOfSet_44 ⟨(by rw [show t = F 0 by omega]; rfl), rfl⟩
  · skip
    refine v_iload_n C 3 dX1_valueOfSet_14 rfl ?_
    refine v_iload C 0 dX1_valueOfSet_15 rfl ?_
    refine v_ishr (z := (iI (se / pw t))) C dX1_valueOfSet_17 (shr_bt (by omega) (by omega) (by omega) (by omega)) ?_
    refine v_iconst C dX1_valueOfSet_18 ?_
    refine v_iand (z := (iI (bt se t))) C dX1_valueOfSet_19 (and_1 (Int.ediv_nonneg (by omega) (by have := pw_pos t; omega)) (Int.lt_of_le_of_lt (Int.ediv_le_self _ (by omega)) (by omega))) ?_
    have hb := bt01 se t
    refine v_if_eq (tgt := 37) C dX1_valueOfSet_20 (by decide) (by omega) (fun c20 => ?_) (fun c20 => ?_)
    · skip
      refine v_iinc (z' := t + 1) (lv' := [(4, .int (iI (t + 1))), (3, .int (iI (sI (fun i => if bt se i = 1 then vT F i q else 0) t))), (0, .ref (a (26 + f))), (1, .int (iI (se))), (2, .int (iI (q)))]) C 0 dX1_valueOfSet_37 rfl (by omega) (by decide) rfl ?_
      refine v_goto (tgt := 5) C dX1_valueOfSet_40 (by decide) ?_
      refine v_lv (congrArg (fun x9 => ([(4, .int (iI (t + 1))), (3, .int (iI x9)), (0, .ref (a (26 + f))), (1, .int (iI (se))), (2, .int (iI (q)))] : List (Nat × Value))) (show (sI (fun i => if bt se i = 1 then vT F i q else 0) t) = (sI (fun i => if bt se i = 1 then vT F i q else 0) (t + 1)) by first | rfl | (rw [sI_s _ (by omega)]; simp [*]; try (intro h8; omega)))) ?_
      exact ih5 (t + 1) (by omega) (by omega)
    · skip
      refine v_iload_n C 1 dX1_valueOfSet_23 rfl ?_
      refine v_aload_n C 2 dX1_valueOfSet_24 rfl ?_
      refine v_getf C (by omega) (by omega) (ct_farm (by omega) (by omega)) rfl 2 (by decide) wf20 hinX1 rfl dX1_valueOfSet_25 ?_
      refine v_iload C 0 dX1_valueOfSet_28 rfl ?_
      refine v_aaload (f := fun j => 56 + 6 * f + j) C (by omega) (by omega) 2 rfl (ct_beastsA (by omega) (by omega)) (by omega) (by omega) (by decide) dX1_valueOfSet_30 ?_
      refine v_iload_n C 4 dX1_valueOfSet_31 rfl ?_
      refine v_cV_i C (As := [.int (iI (q))]) (rest := [.int (iI (sI (fun i => if bt se i = 1 then vT F i q else 0) t))]) (c_X0_valueTo l D yc t1 t2 a A g f t q (by omega) (by omega) (by omega)) (cwV 1 C.hts gX1_valueOfSet_X0_valueTo rfl rfl rfl (by decide +kernel) ⟨by decide, by decide⟩) (fun H hP => va_recv C.hK hP (ci := 0) (q0 := (56 + 6 * f + t : Int).toNat) rfl (wo_is (by omega) (by omega) (ct_beast (by omega) (by omega) (by omega) (by omega)))) rfl rfl (Nat.le_of_ble_eq_true rfl) dX1_valueOfSet_32 ?_
      intro r9 g9 h9
      rw [h9.1, h9.2]
      clear h9 g9 r9
      try dsimp only
      refine v_st (st' := [.int (iI (vT F t q)), .int (iI (sI (fun i => if bt se i = 1 then vT F i q else 0) t))]) (by rw [(HF.bs (i := t) (by omega) (by omega)).2.2.2.1, (HF.bs (i := t) (by omega) (by omega)).2.2.2.2]; by_cases h8 : q = 0 <;> simp [h8] <;> rw [show q = 1 by omega]) ?_
      refine v_iadd C dX1_valueOfSet_35 ?_
      refine v_istore_n (lv' := [(3, .int (iI ((sI (fun i => if bt se i = 1 then vT F i q else 0) t) + (vT F t q)))), (4, .int (iI (t))), (0, .ref (a (26 + f))), (1, .int (iI (se))), (2, .int (iI (q)))]) C dX1_valueOfSet_36 (by decide) rfl ?_
      refine v_iinc (z' := t + 1) (lv' := [(4, .int (iI (t + 1))), (3, .int (iI ((sI (fun i => if bt se i = 1 then vT F i q else 0) t) + (vT F t q)))), (0, .ref (a (26 + f))), (1, .int (iI (se))), (2, .int (iI (q)))]) C 1 dX1_valueOfSet_37 rfl (by omega) (by decide) rfl ?_
      refine v_goto (tgt := 5) C dX1_valueOfSet_40 (by decide) ?_
      refine v_lv (congrArg (fun x9 => ([(4, .int (iI (t + 1))), (3, .int (iI x9)), (0, .ref (a (26 + f))), (1, .int (iI (se))), (2, .int (iI (q)))] : List (Nat × Value))) (show ((sI (fun i => if bt se i = 1 then vT F i q else 0) t) + (vT F t q)) = (sI (fun i => if bt se i = 1 then vT F i q else 0) (t + 1)) by first | rfl | (rw [sI_s _ (by omega)]; simp [*]; try (intro h8; omega)))) ?_
      exact ih5 (t + 1) (by omega) (by omega)

set_option maxRecDepth 100000 in
set_option maxHeartbeats 4000000 in
theorem c_X1_noneEnvies (l : Launch) (D : va_G) (yc : Nat → ClassId) (t1 t2 : Nat) (a : Int → Nat) (A : Nat → Prop) (g : Mm) (f se pd : Int) (F : Int → Int) (hf : 0 ≤ f ∧ f < 5) (HF : FR g f F) (HI : FI F) (hs : 0 ≤ se ∧ se < pw (F 0)) (hp : -100000 ≤ pd ∧ pd ≤ 100000) : Ci l yX1_noneEnvies wsX1_noneEnvies { frames := 2, cells := 0, slots := 0, locals := 45 } D yc t1 t2 A (cw a yc) [.ref (a (26 + f)), .int (iI (se)), .int (iI (pd))] g (fun r9 g' => r9 = (bI (VB F se 1 0 - pd ≤ VB F se 0 0 + pd ∧ VB F se 0 1 + pd ≤ VB F se 1 1 - pd)) ∧ g' = g) := by
  refine start_i (cc := cX1_noneEnvies) (nL := 4) (ret := (some .boolean)) (own := RX1) (by decide +kernel) rfl rfl (Nat.le_of_ble_eq_true rfl) ?_
  intro p e s m9 below meth c9 C
  have hn := HI.n
  have hpw := pw_le (i := F 0) (j := 6) (by omega) (by omega)
  rw [show pw 6 = 64 from rfl] at hpw
  have b00 := VB_bd HI se 0 (q := 0) (by omega)
  have b10 := VB_bd HI se 1 (q := 0) (by omega)
  have b01 := VB_bd HI se 0 (q := 1) (by omega)
  have b11 := VB_bd HI se 1 (q := 1) (by omega)
  refine v_lv (lv' := [(0, .ref (a (26 + f))), (1, .int (iI (se))), (2, .int (iI (pd)))]) rfl ?_
  refine v_aload_n C 0 dX1_noneEnvies_0 rfl ?_
  refine v_cV_i C (As := []) (rest := []) (c_X1_allBeasts l D yc t1 t2 a A g f F (by omega) HF HI) (cwV 0 C.hts gX1_noneEnvies_X1_allBeasts rfl rfl rfl (by decide +kernel) ⟨by decide, by decide⟩) (fun H hP => va_recv C.hK hP (ci := 1) (q0 := (26 + f : Int).toNat) rfl (wo_is (by omega) (by omega) (ct_farm (by omega) (by omega)))) rfl rfl (Nat.le_of_ble_eq_true rfl) dX1_noneEnvies_1 ?_
  intro r9 g9 h9
  rw [h9.1, h9.2]
  clear h9 g9 r9
  try dsimp only
  refine v_iload_n C 1 dX1_noneEnvies_4 rfl ?_
  refine v_ixor (z := (iI (pw (F 0) - 1 - se))) C dX1_noneEnvies_5 (xor_all (by omega) (by omega) (by omega)) ?_
  refine v_istore_n (lv' := [(3, .int (iI (pw (F 0) - 1 - se))), (0, .ref (a (26 + f))), (1, .int (iI (se))), (2, .int (iI (pd)))]) C dX1_noneEnvies_6 (by decide) rfl ?_
  refine v_aload_n C 1 dX1_noneEnvies_7 rfl ?_
  refine v_iload_n C 0 dX1_noneEnvies_8 rfl ?_
  refine v_iconst C dX1_noneEnvies_9 ?_
  refine v_cV_i C (As := [.int (iI (pw (F 0) - 1 - se)), .int (iI (0))]) (rest := []) (c_X1_valueOfSet l D yc t1 t2 a A g f (pw (F 0) - 1 - se) 0 F (by omega) HF HI (by omega) (by omega)) (cwV 2 C.hts gX1_noneEnvies_X1_valueOfSet rfl rfl rfl (by decide +kernel) ⟨by decide, by decide⟩) (fun H hP => va_recv C.hK hP (ci := 1) (q0 := (26 + f : Int).toNat) rfl (wo_is (by omega) (by omega) (ct_farm (by omega) (by omega)))) rfl rfl (Nat.le_of_ble_eq_true rfl) dX1_noneEnvies_10 ?_
  intro r9 g9 h9
  rw [h9.1, h9.2]
  clear h9 g9 r9
  try dsimp only
  refine v_st (st' := [.int (iI (VB F se 0 0))]) (by rw [VB_rest (by omega) (by omega) (by omega)]) ?_
  refine v_iload_n C 3 dX1_noneEnvies_13 rfl ?_
  refine v_iadd C dX1_noneEnvies_14 ?_
  refine v_aload_n C 1 dX1_noneEnvies_15 rfl ?_
  refine v_iload_n C 2 dX1_noneEnvies_16 rfl ?_
  refine v_iconst C dX1_noneEnvies_17 ?_
  refine v_cV_i C (As := [.int (iI (se)), .int (iI (0))]) (rest := [.int (iI ((VB F se 0 0) + pd))]) (c_X1_valueOfSet l D yc t1 t2 a A g f se 0 F (by omega) HF HI (by omega) (by omega)) (cwV 2 C.hts gX1_noneEnvies_X1_valueOfSet rfl rfl rfl (by decide +kernel) ⟨by decide, by decide⟩) (fun H hP => va_recv C.hK hP (ci := 1) (q0 := (26 + f : Int).toNat) rfl (wo_is (by omega) (by omega) (ct_farm (by omega) (by omega)))) rfl rfl (Nat.le_of_ble_eq_true rfl) dX1_noneEnvies_18 ?_
  intro r9 g9 h9
  rw [h9.1, h9.2]
  clear h9 g9 r9
  try dsimp only
  refine v_iload_n C 3 dX1_noneEnvies_21 rfl ?_
  refine v_isub C dX1_noneEnvies_22 ?_
  refine v_icmp_lt (tgt := 49) C dX1_noneEnvies_23 (by decide) (by omega) (by omega) (fun c23 => ?_) (fun c23 => ?_)
  · skip
    refine v_iconst C dX1_noneEnvies_49 ?_
    exact v_ret_z C rfl (Or.inl rfl) dX1_noneEnvies_50 ⟨(bI_f (by omega)), rfl⟩
  · skip
    refine v_aload_n C 1 dX1_noneEnvies_26 rfl ?_
    refine v_iload_n C 2 dX1_noneEnvies_27 rfl ?_
    refine v_iconst C dX1_noneEnvies_28 ?_
    refine v_cV_i C (As := [.int (iI (se)), .int (iI (1))]) (rest := []) (c_X1_valueOfSet l D yc t1 t2 a A g f se 1 F (by omega) HF HI (by omega) (by omega)) (cwV 2 C.hts gX1_noneEnvies_X1_valueOfSet rfl rfl rfl (by decide +kernel) ⟨by decide, by decide⟩) (fun H hP => va_recv C.hK hP (ci := 1) (q0 := (26 + f : Int).toNat) rfl (wo_is (by omega) (by omega) (ct_farm (by omega) (by omega)))) rfl rfl (Nat.le_of_ble_eq_true rfl) dX1_noneEnvies_29 ?_
    intro r9 g9 h9
    rw [h9.1, h9.2]
    clear h9 g9 r9
    try dsimp only
    refine v_iload_n C 3 dX1_noneEnvies_32 rfl ?_
    refine v_isub C dX1_noneEnvies_33 ?_
    refine v_aload_n C 1 dX1_noneEnvies_34 rfl ?_
    refine v_iload_n C 0 dX1_noneEnvies_35 rfl ?_
    refine v_iconst C dX1_noneEnvies_36 ?_
    refine v_cV_i C (As := [.int (iI (pw (F 0) - 1 - se)), .int (iI (1))]) (rest := [.int (iI ((VB F se 1 1) - pd))]) (c_X1_valueOfSet l D yc t1 t2 a A g f (pw (F 0) - 1 - se) 1 F (by omega) HF HI (by omega) (by omega)) (cwV 2 C.hts gX1_noneEnvies_X1_valueOfSet rfl rfl rfl (by decide +kernel) ⟨by decide, by decide⟩) (fun H hP => va_recv C.hK hP (ci := 1) (q0 := (26 + f : Int).toNat) rfl (wo_is (by omega) (by omega) (ct_farm (by omega) (by omega)))) rfl rfl (Nat.le_of_ble_eq_true rfl) dX1_noneEnvies_37 ?_
    intro r9 g9 h9
    rw [h9.1, h9.2]
    clear h9 g9 r9
    try dsimp only
    refine v_st (st' := [.int (iI (VB F se 0 1)), .int (iI ((VB F se 1 1) - pd))]) (by rw [VB_rest (by omega) (by omega) (by omega)]) ?_
    refine v_iload_n C 3 dX1_noneEnvies_40 rfl ?_
    refine v_iadd C dX1_noneEnvies_41 ?_
    refine v_icmp_lt (tgt := 49) C dX1_noneEnvies_42 (by decide) (by omega) (by omega) (fun c42 => ?_) (fun c42 => ?_)
    · skip
      refine v_iconst C dX1_noneEnvies_49 ?_
      exact v_ret_z C rfl (Or.inl rfl) dX1_noneEnvies_50 ⟨(bI_f (by omega)), rfl⟩
    · skip
      refine v_iconst C dX1_noneEnvies_45 ?_
      refine v_goto (tgt := 50) C dX1_noneEnvies_46 (by decide) ?_
      exact v_ret_z C rfl (Or.inr rfl) dX1_noneEnvies_50 ⟨(bI_t (by omega)), rfl⟩

set_option maxRecDepth 100000 in
set_option maxHeartbeats 4000000 in
theorem c_X1_youngOnesOf (l : Launch) (D : va_G) (yc : Nat → ClassId) (t1 t2 : Nat) (a : Int → Nat) (A : Nat → Prop) (g : Mm) (f q : Int) (F : Int → Int) (hf : 0 ≤ f ∧ f < 5) (HF : FR g f F) (HI : FI F) (hq : R32 q) : Ci l yX1_youngOnesOf wsX1_youngOnesOf { frames := 1, cells := 0, slots := 0, locals := 23 } D yc t1 t2 A (cw a yc) [.ref (a (26 + f)), .int (iI (q))] g (fun r9 g' => r9 = (iI (sI (fun i => if F (20 + 3 * i + 2) = q ∧ (F (20 + 3 * i) = 2 ∨ F (20 + 3 * i) = 4) then 1 else 0) (F 0))) ∧ g' = g) := by
  refine start_i (cc := cX1_youngOnesOf) (nL := 4) (ret := (some .int)) (own := RX1) (by decide +kernel) rfl rfl (Nat.le_of_ble_eq_true rfl) ?_
  intro p e s m9 below meth c9 C
  have wf31 : Cond.fieldLink RX1 31 (TX1 7).1 (TX1 7).2.1 (TX1 7).2.2.1 ∈ wsX1_youngOnesOf := by decide +kernel
  have hinX1 : ∀ w ∈ u_ws RX1 TX1 11, w ∈ wsX1_youngOnesOf := by decide +kernel
  have wf20 : Cond.fieldLink RX1 20 (TX1 2).1 (TX1 2).2.1 (TX1 2).2.2.1 ∈ wsX1_youngOnesOf := by decide +kernel
  have wf62 : Cond.fieldLink RX1 62 (TX0 2).1 (TX0 2).2.1 (TX0 2).2.2.1 ∈ wsX1_youngOnesOf := by decide +kernel
  have hinX0 : ∀ w ∈ u_ws RX0 TX0 5, w ∈ wsX1_youngOnesOf := by decide +kernel
  have hn := HI.n
  refine v_lv (lv' := [(0, .ref (a (26 + f))), (1, .int (iI (q)))]) rfl ?_
  refine v_iconst C dX1_youngOnesOf_0 ?_
  refine v_istore_n (lv' := [(2, .int (iI (0))), (0, .ref (a (26 + f))), (1, .int (iI (q)))]) C dX1_youngOnesOf_1 (by decide) rfl ?_
  refine v_iconst C dX1_youngOnesOf_2 ?_
  refine v_istore_n (lv' := [(3, .int (iI (0))), (2, .int (iI (0))), (0, .ref (a (26 + f))), (1, .int (iI (q)))]) C dX1_youngOnesOf_3 (by decide) rfl ?_
  refine v_lv (congrArg (fun x9 => ([(3, .int (iI (0))), (2, .int (iI x9)), (0, .ref (a (26 + f))), (1, .int (iI (q)))] : List (Nat × Value))) (show (0) = (sI (fun i => if F (20 + 3 * i + 2) = q ∧ (F (20 + 3 * i) = 2 ∨ F (20 + 3 * i) = 4) then 1 else 0) 0) by first | rfl | omega | (simp; done))) ?_
  refine v_loop1 (fun (t : Int) => (F 0 - t).toNat) (fun (t : Int) => 0 ≤ t ∧ t ≤ F 0) (fun (t : Int) => [(3, .int (iI (t))), (2, .int (iI (sI (fun i => if F (20 + 3 * i + 2) = q ∧ (F (20 + 3 * i) = 2 ∨ F (20 + 3 * i) = 4) then 1 else 0) t))), (0, .ref (a (26 + f))), (1, .int (iI (q)))]) (fun (t : Int) => g) ?_ 0 (by omega)
  intro t hI4 ih4
  try dsimp only at ih4 ⊢
  refine v_iload_n C 0 dX1_youngOnesOf_4 rfl ?_
  refine v_aload_n C 2 dX1_youngOnesOf_5 rfl ?_
  refine v_getf C (by omega) (by omega) (ct_farm (by omega) (by omega)) rfl 7 (by decide) wf31 hinX1 rfl dX1_youngOnesOf_6 ?_
  refine v_st (st' := [.int (iI (F 0)), .int (iI (t))]) (by rw [HF.bc]) ?_
  refine v_icmp_ge (tgt := 47) C dX1_youngOnesOf_9 (by decide) (by omega) (by omega) (fun c9 => ?_) (fun c9 => ?_)
  · skip
    refine v_iload_n C 1 dX1_youngOnesOf_47 rfl ?_
    exact v_ret_i C rfl dX1_youngOnesOf_48 ⟨(by rw [show t = F 0 by omega]), rfl⟩
  · skip
    refine v_aload_n C 2 dX1_youngOnesOf_12 rfl ?_
    refine v_getf C (by omega) (by omega) (ct_farm (by omega) (by omega)) rfl 2 (by decide) wf20 hinX1 rfl dX1_youngOnesOf_13 ?_
    refine v_iload_n C 0 dX1_youngOnesOf_16 rfl ?_
    refine v_aaload (f := fun j => 56 + 6 * f + j) C (by omega) (by omega) 2 rfl (ct_beastsA (by omega) (by omega)) (by omega) (by omega) (by decide) dX1_youngOnesOf_17 ?_
    have hb := HI.b (i := t) (by omega) (by omega)
    refine v_getf C (by omega) (by omega) (ct_beast (by omega) (by omega) (by omega) (by omega)) rfl 2 (by decide) wf62 hinX0 rfl dX1_youngOnesOf_18 ?_
    refine v_st (st' := [.int (iI (F (20 + 3 * t + 2)))]) (by rw [(HF.bs (i := t) (by omega) (by omega)).2.2.1]) ?_
    refine v_iload_n C 3 dX1_youngOnesOf_21 rfl ?_
    refine v_icmp_ne (tgt := 41) C dX1_youngOnesOf_22 (by decide) (by omega) (by omega) (fun c22 => ?_) (fun c22 => ?_)
    · skip
      refine v_iinc (z' := t + 1) (lv' := [(3, .int (iI (t + 1))), (2, .int (iI (sI (fun i => if F (20 + 3 * i + 2) = q ∧ (F (20 + 3 * i) = 2 ∨ F (20 + 3 * i) = 4) then 1 else 0) t))), (0, .ref (a (26 + f))), (1, .int (iI (q)))]) C 0 dX1_youngOnesOf_41 rfl (by omega) (by decide) rfl ?_
      refine v_goto (tgt := 4) C dX1_youngOnesOf_44 (by decide) ?_
      refine v_lv (congrArg (fun x9 => ([(3, .int (iI (t + 1))), (2, .int (iI x9)), (0, .ref (a (26 + f))), (1, .int (iI (q)))] : List (Nat × Value))) (show (sI (fun i => if F (20 + 3 * i + 2) = q ∧ (F (20 + 3 * i) = 2 ∨ F (20 + 3 * i) = 4) then 1 else 0) t) = (sI (fun i => if F (20 + 3 * i + 2) = q ∧ (F (20 + 3 * i) = 2 ∨ F (20 + 3 * i) = 4) then 1 else 0) (t + 1)) by first | rfl | (rw [sI_s _ (by omega)]; (first | (rw [if_pos (by omega)]) | (rw [if_neg (by omega)]; omega))))) ?_
      exact ih4 (t + 1) (by omega) (by omega)
    · skip
      refine v_aload_n C 2 dX1_youngOnesOf_25 rfl ?_
      refine v_getf C (by omega) (by omega) (ct_farm (by omega) (by omega)) rfl 2 (by decide) wf20 hinX1 rfl dX1_youngOnesOf_26 ?_
      refine v_iload_n C 0 dX1_youngOnesOf_29 rfl ?_
      refine v_aaload (f := fun j => 56 + 6 * f + j) C (by omega) (by omega) 2 rfl (ct_beastsA (by omega) (by omega)) (by omega) (by omega) (by decide) dX1_youngOnesOf_30 ?_
      refine v_iconst C dX1_youngOnesOf_31 ?_
      refine v_cV_i C (As := [.int (iI (2))]) (rest := []) (c_X0_isOf l D yc t1 t2 a A g f t 2 (F (20 + 3 * t)) (by omega) (by omega) (HF.bs (i := t) (by omega) (by omega)).1 (by omega) (by omega)) (cwV 1 C.hts gX1_youngOnesOf_X0_isOf rfl rfl rfl (by decide +kernel) ⟨by decide, by decide⟩) (fun H hP => va_recv C.hK hP (ci := 0) (q0 := (56 + 6 * f + t : Int).toNat) rfl (wo_is (by omega) (by omega) (ct_beast (by omega) (by omega) (by omega) (by omega)))) rfl rfl (Nat.le_of_ble_eq_true rfl) dX1_youngOnesOf_32 ?_
      intro r9 g9 h9
      rw [h9.1, h9.2]
      clear h9 g9 r9
      try dsimp only
      refine v_ifb_eq (tgt := 41) C dX1_youngOnesOf_35 (by decide) (fun c35 => ?_) (fun c35 => ?_)
      · skip
        refine v_iinc (z' := t + 1) (lv' := [(3, .int (iI (t + 1))), (2, .int (iI (sI (fun i => if F (20 + 3 * i + 2) = q ∧ (F (20 + 3 * i) = 2 ∨ F (20 + 3 * i) = 4) then 1 else 0) t))), (0, .ref (a (26 + f))), (1, .int (iI (q)))]) C 0 dX1_youngOnesOf_41 rfl (by omega) (by decide) rfl ?_
        refine v_goto (tgt := 4) C dX1_youngOnesOf_44 (by decide) ?_
        refine v_lv (congrArg (fun x9 => ([(3, .int (iI (t + 1))), (2, .int (iI x9)), (0, .ref (a (26 + f))), (1, .int (iI (q)))] : List (Nat × Value))) (show (sI (fun i => if F (20 + 3 * i + 2) = q ∧ (F (20 + 3 * i) = 2 ∨ F (20 + 3 * i) = 4) then 1 else 0) t) = (sI (fun i => if F (20 + 3 * i + 2) = q ∧ (F (20 + 3 * i) = 2 ∨ F (20 + 3 * i) = 4) then 1 else 0) (t + 1)) by first | rfl | (rw [sI_s _ (by omega)]; (first | (rw [if_pos (by omega)]) | (rw [if_neg (by omega)]; omega))))) ?_
        exact ih4 (t + 1) (by omega) (by omega)
      · skip
        refine v_iinc (z' := sI (fun i => if F (20 + 3 * i + 2) = q ∧ (F (20 + 3 * i) = 2 ∨ F (20 + 3 * i) = 4) then 1 else 0) t + 1) (lv' := [(2, .int (iI (sI (fun i => if F (20 + 3 * i + 2) = q ∧ (F (20 + 3 * i) = 2 ∨ F (20 + 3 * i) = 4) then 1 else 0) t + 1))), (3, .int (iI (t))), (0, .ref (a (26 + f))), (1, .int (iI (q)))]) C 1 dX1_youngOnesOf_38 rfl (by omega) (by decide) rfl ?_
        refine v_iinc (z' := t + 1) (lv' := [(3, .int (iI (t + 1))), (2, .int (iI (sI (fun i => if F (20 + 3 * i + 2) = q ∧ (F (20 + 3 * i) = 2 ∨ F (20 + 3 * i) = 4) then 1 else 0) t + 1))), (0, .ref (a (26 + f))), (1, .int (iI (q)))]) C 1 dX1_youngOnesOf_41 rfl (by omega) (by decide) rfl ?_
        refine v_goto (tgt := 4) C dX1_youngOnesOf_44 (by decide) ?_
        refine v_lv (congrArg (fun x9 => ([(3, .int (iI (t + 1))), (2, .int (iI x9)), (0, .ref (a (26 + f))), (1, .int (iI (q)))] : List (Nat × Value))) (show (sI (fun i => if F (20 + 3 * i + 2) = q ∧ (F (20 + 3 * i) = 2 ∨ F (20 + 3 * i) = 4) then 1 else 0) t + 1) = (sI (fun i => if F (20 + 3 * i + 2) = q ∧ (F (20 + 3 * i) = 2 ∨ F (20 + 3 * i) = 4) then 1 else 0) (t + 1)) by first | rfl | (rw [sI_s _ (by omega)]; (first | (rw [if_pos (by omega)]) | (rw [if_neg (by omega)]; omega))))) ?_
        exact ih4 (t + 1) (by omega) (by omega)

set_option maxRecDepth 100000 in
set_option maxHeartbeats 4000000 in
theorem c_X1_howManyBelow (l : Launch) (D : va_G) (yc : Nat → ClassId) (t1 t2 : Nat) (a : Int → Nat) (A : Nat → Prop) (g : Mm) (f v : Int) (F : Int → Int) (hf : 0 ≤ f ∧ f < 5) (HF : FR g f F) (HI : FI F) (hv : R32 v) : Ci l yX1_howManyBelow wsX1_howManyBelow { frames := 0, cells := 0, slots := 0, locals := 0 } D yc t1 t2 A (cw a yc) [.ref (a (26 + f)), .int (iI (v))] g (fun r9 g' => r9 = (iI (sI (fun i => if vT F i 0 < v then 1 else 0) (F 0))) ∧ g' = g) := by
  refine start_i (cc := cX1_howManyBelow) (nL := 4) (ret := (some .int)) (own := RX1) (by decide +kernel) rfl rfl (Nat.le_of_ble_eq_true rfl) ?_
  intro p e s m9 below meth c9 C
  have wf31 : Cond.fieldLink RX1 31 (TX1 7).1 (TX1 7).2.1 (TX1 7).2.2.1 ∈ wsX1_howManyBelow := by decide +kernel
  have hinX1 : ∀ w ∈ u_ws RX1 TX1 11, w ∈ wsX1_howManyBelow := by decide +kernel
  have wf20 : Cond.fieldLink RX1 20 (TX1 2).1 (TX1 2).2.1 (TX1 2).2.2.1 ∈ wsX1_howManyBelow := by decide +kernel
  have wf105 : Cond.fieldLink RX1 105 (TX0 3).1 (TX0 3).2.1 (TX0 3).2.2.1 ∈ wsX1_howManyBelow := by decide +kernel
  have hinX0 : ∀ w ∈ u_ws RX0 TX0 5, w ∈ wsX1_howManyBelow := by decide +kernel
  have hn := HI.n
  refine v_lv (lv' := [(0, .ref (a (26 + f))), (1, .int (iI (v)))]) rfl ?_
  refine v_iconst C dX1_howManyBelow_0 ?_
  refine v_istore_n (lv' := [(2, .int (iI (0))), (0, .ref (a (26 + f))), (1, .int (iI (v)))]) C dX1_howManyBelow_1 (by decide) rfl ?_
  refine v_iconst C dX1_howManyBelow_2 ?_
  refine v_istore_n (lv' := [(3, .int (iI (0))), (2, .int (iI (0))), (0, .ref (a (26 + f))), (1, .int (iI (v)))]) C dX1_howManyBelow_3 (by decide) rfl ?_
  refine v_lv (congrArg (fun x9 => ([(3, .int (iI (0))), (2, .int (iI x9)), (0, .ref (a (26 + f))), (1, .int (iI (v)))] : List (Nat × Value))) (show (0) = (sI (fun i => if vT F i 0 < v then 1 else 0) 0) by first | rfl | omega | (simp; done))) ?_
  refine v_loop1 (fun (t : Int) => (F 0 - t).toNat) (fun (t : Int) => 0 ≤ t ∧ t ≤ F 0) (fun (t : Int) => [(3, .int (iI (t))), (2, .int (iI (sI (fun i => if vT F i 0 < v then 1 else 0) t))), (0, .ref (a (26 + f))), (1, .int (iI (v)))]) (fun (t : Int) => g) ?_ 0 (by omega)
  intro t hI4 ih4
  try dsimp only at ih4 ⊢
  refine v_iload_n C 0 dX1_howManyBelow_4 rfl ?_
  refine v_aload_n C 2 dX1_howManyBelow_5 rfl ?_
  refine v_getf C (by omega) (by omega) (ct_farm (by omega) (by omega)) rfl 7 (by decide) wf31 hinX1 rfl dX1_howManyBelow_6 ?_
  refine v_st (st' := [.int (iI (F 0)), .int (iI (t))]) (by rw [HF.bc]) ?_
  refine v_icmp_ge (tgt := 34) C dX1_howManyBelow_9 (by decide) (by omega) (by omega) (fun c9 => ?_) (fun c9 => ?_)
  · skip
    refine v_iload_n C 1 dX1_howManyBelow_34 rfl ?_
    exact v_ret_i C rfl dX1_howManyBelow_35 ⟨(by rw [show t = F 0 by omega]), rfl⟩
  · skip
    refine v_aload_n C 2 dX1_howManyBelow_12 rfl ?_
    refine v_getf C (by omega) (by omega) (ct_farm (by omega) (by omega)) rfl 2 (by decide) wf20 hinX1 rfl dX1_howManyBelow_13 ?_
    refine v_iload_n C 0 dX1_howManyBelow_16 rfl ?_
    refine v_aaload (f := fun j => 56 + 6 * f + j) C (by omega) (by omega) 2 rfl (ct_beastsA (by omega) (by omega)) (by omega) (by omega) (by decide) dX1_howManyBelow_17 ?_
    have hb := vT_bd HI (i := t) (by omega) (by omega) (q := 0) (by omega)
    refine v_getf C (by omega) (by omega) (ct_beast (by omega) (by omega) (by omega) (by omega)) rfl 3 (by decide) wf105 hinX0 rfl dX1_howManyBelow_18 ?_
    refine v_st (st' := [.int (iI (vT F t 0))]) (by rw [(HF.bs (i := t) (by omega) (by omega)).2.2.2.1]) ?_
    refine v_iload_n C 3 dX1_howManyBelow_21 rfl ?_
    refine v_icmp_ge (tgt := 28) C dX1_howManyBelow_22 (by decide) (by omega) (by omega) (fun c22 => ?_) (fun c22 => ?_)
    · skip
      refine v_iinc (z' := t + 1) (lv' := [(3, .int (iI (t + 1))), (2, .int (iI (sI (fun i => if vT F i 0 < v then 1 else 0) t))), (0, .ref (a (26 + f))), (1, .int (iI (v)))]) C 0 dX1_howManyBelow_28 rfl (by omega) (by decide) rfl ?_
      refine v_goto (tgt := 4) C dX1_howManyBelow_31 (by decide) ?_
      refine v_lv (congrArg (fun x9 => ([(3, .int (iI (t + 1))), (2, .int (iI x9)), (0, .ref (a (26 + f))), (1, .int (iI (v)))] : List (Nat × Value))) (show (sI (fun i => if vT F i 0 < v then 1 else 0) t) = (sI (fun i => if vT F i 0 < v then 1 else 0) (t + 1)) by first | rfl | (rw [sI_s _ (by omega)]; (first | (rw [if_pos (by omega)]) | (rw [if_neg (by omega)]; omega))))) ?_
      exact ih4 (t + 1) (by omega) (by omega)
    · skip
      refine v_iinc (z' := sI (fun i => if vT F i 0 < v then 1 else 0) t + 1) (lv' := [(2, .int (iI (sI (fun i => if vT F i 0 < v then 1 else 0) t + 1))), (3, .int (iI (t))), (0, .ref (a (26 + f))), (1, .int (iI (v)))]) C 1 dX1_howManyBelow_25 rfl (by omega) (by decide) rfl ?_
      refine v_iinc (z' := t + 1) (lv' := [(3, .int (iI (t + 1))), (2, .int (iI (sI (fun i => if vT F i 0 < v then 1 else 0) t + 1))), (0, .ref (a (26 + f))), (1, .int (iI (v)))]) C 1 dX1_howManyBelow_28 rfl (by omega) (by decide) rfl ?_
      refine v_goto (tgt := 4) C dX1_howManyBelow_31 (by decide) ?_
      refine v_lv (congrArg (fun x9 => ([(3, .int (iI (t + 1))), (2, .int (iI x9)), (0, .ref (a (26 + f))), (1, .int (iI (v)))] : List (Nat × Value))) (show (sI (fun i => if vT F i 0 < v then 1 else 0) t + 1) = (sI (fun i => if vT F i 0 < v then 1 else 0) (t + 1)) by first | rfl | (rw [sI_s _ (by omega)]; (first | (rw [if_pos (by omega)]) | (rw [if_neg (by omega)]; omega))))) ?_
      exact ih4 (t + 1) (by omega) (by omega)

set_option maxRecDepth 100000 in
set_option maxHeartbeats 4000000 in
theorem c_X1_bulls (l : Launch) (D : va_G) (yc : Nat → ClassId) (t1 t2 : Nat) (a : Int → Nat) (A : Nat → Prop) (g : Mm) (f : Int) (F : Int → Int) (hf : 0 ≤ f ∧ f < 5) (HF : FR g f F) (HI : FI F) : Ci l yX1_bulls wsX1_bulls { frames := 1, cells := 0, slots := 0, locals := 23 } D yc t1 t2 A (cw a yc) [.ref (a (26 + f))] g (fun r9 g' => r9 = (iI (sI (fun i => if F (20 + 3 * i) = 3 ∨ F (20 + 3 * i) = 5 then 1 else 0) (F 0))) ∧ g' = g) := by
  refine start_i (cc := cX1_bulls) (nL := 3) (ret := (some .int)) (own := RX1) (by decide +kernel) rfl rfl (Nat.le_of_ble_eq_true rfl) ?_
  intro p e s m9 below meth c9 C
  have wf31 : Cond.fieldLink RX1 31 (TX1 7).1 (TX1 7).2.1 (TX1 7).2.2.1 ∈ wsX1_bulls := by decide +kernel
  have hinX1 : ∀ w ∈ u_ws RX1 TX1 11, w ∈ wsX1_bulls := by decide +kernel
  have wf20 : Cond.fieldLink RX1 20 (TX1 2).1 (TX1 2).2.1 (TX1 2).2.2.1 ∈ wsX1_bulls := by decide +kernel
  have hn := HI.n
  refine v_lv (lv' := [(0, .ref (a (26 + f)))]) rfl ?_
  refine v_iconst C dX1_bulls_0 ?_
  refine v_istore_n (lv' := [(1, .int (iI (0))), (0, .ref (a (26 + f)))]) C dX1_bulls_1 (by decide) rfl ?_
  refine v_iconst C dX1_bulls_2 ?_
  refine v_istore_n (lv' := [(2, .int (iI (0))), (1, .int (iI (0))), (0, .ref (a (26 + f)))]) C dX1_bulls_3 (by decide) rfl ?_
  refine v_lv (congrArg (fun x9 => ([(2, .int (iI (0))), (1, .int (iI x9)), (0, .ref (a (26 + f)))] : List (Nat × Value))) (show (0) = (sI (fun i => if F (20 + 3 * i) = 3 ∨ F (20 + 3 * i) = 5 then 1 else 0) 0) by first | rfl | omega | (simp; done))) ?_
  refine v_loop1 (fun (t : Int) => (F 0 - t).toNat) (fun (t : Int) => 0 ≤ t ∧ t ≤ F 0) (fun (t : Int) => [(2, .int (iI (t))), (1, .int (iI (sI (fun i => if F (20 + 3 * i) = 3 ∨ F (20 + 3 * i) = 5 then 1 else 0) t))), (0, .ref (a (26 + f)))]) (fun (t : Int) => g) ?_ 0 (by omega)
  intro t hI4 ih4
  try dsimp only at ih4 ⊢
  refine v_iload_n C 0 dX1_bulls_4 rfl ?_
  refine v_aload_n C 2 dX1_bulls_5 rfl ?_
  refine v_getf C (by omega) (by omega) (ct_farm (by omega) (by omega)) rfl 7 (by decide) wf31 hinX1 rfl dX1_bulls_6 ?_
  refine v_st (st' := [.int (iI (F 0)), .int (iI (t))]) (by rw [HF.bc]) ?_
  refine v_icmp_ge (tgt := 34) C dX1_bulls_9 (by decide) (by omega) (by omega) (fun c9 => ?_) (fun c9 => ?_)
  · skip
    refine v_iload_n C 1 dX1_bulls_34 rfl ?_
    exact v_ret_i C rfl dX1_bulls_35 ⟨(by rw [show t = F 0 by omega]), rfl⟩
  · skip
    refine v_aload_n C 2 dX1_bulls_12 rfl ?_
    refine v_getf C (by omega) (by omega) (ct_farm (by omega) (by omega)) rfl 2 (by decide) wf20 hinX1 rfl dX1_bulls_13 ?_
    refine v_iload_n C 0 dX1_bulls_16 rfl ?_
    have hb := HI.b (i := t) (by omega) (by omega)
    refine v_aaload (f := fun j => 56 + 6 * f + j) C (by omega) (by omega) 2 rfl (ct_beastsA (by omega) (by omega)) (by omega) (by omega) (by decide) dX1_bulls_17 ?_
    refine v_iconst C dX1_bulls_18 ?_
    refine v_cV_i C (As := [.int (iI (3))]) (rest := []) (c_X0_isOf l D yc t1 t2 a A g f t 3 (F (20 + 3 * t)) (by omega) (by omega) (HF.bs (i := t) (by omega) (by omega)).1 (by omega) (by omega)) (cwV 1 C.hts gX1_bulls_X0_isOf rfl rfl rfl (by decide +kernel) ⟨by decide, by decide⟩) (fun H hP => va_recv C.hK hP (ci := 0) (q0 := (56 + 6 * f + t : Int).toNat) rfl (wo_is (by omega) (by omega) (ct_beast (by omega) (by omega) (by omega) (by omega)))) rfl rfl (Nat.le_of_ble_eq_true rfl) dX1_bulls_19 ?_
    intro r9 g9 h9
    rw [h9.1, h9.2]
    clear h9 g9 r9
    try dsimp only
    refine v_ifb_eq (tgt := 28) C dX1_bulls_22 (by decide) (fun c22 => ?_) (fun c22 => ?_)
    · skip
      refine v_iinc (z' := t + 1) (lv' := [(2, .int (iI (t + 1))), (1, .int (iI (sI (fun i => if F (20 + 3 * i) = 3 ∨ F (20 + 3 * i) = 5 then 1 else 0) t))), (0, .ref (a (26 + f)))]) C 0 dX1_bulls_28 rfl (by omega) (by decide) rfl ?_
      refine v_goto (tgt := 4) C dX1_bulls_31 (by decide) ?_
      refine v_lv (congrArg (fun x9 => ([(2, .int (iI (t + 1))), (1, .int (iI x9)), (0, .ref (a (26 + f)))] : List (Nat × Value))) (show (sI (fun i => if F (20 + 3 * i) = 3 ∨ F (20 + 3 * i) = 5 then 1 else 0) t) = (sI (fun i => if F (20 + 3 * i) = 3 ∨ F (20 + 3 * i) = 5 then 1 else 0) (t + 1)) by first | rfl | (rw [sI_s _ (by omega)]; (first | (rw [if_pos (by omega)]) | (rw [if_neg (by omega)]; omega))))) ?_
      exact ih4 (t + 1) (by omega) (by omega)
    · skip
      refine v_iinc (z' := sI (fun i => if F (20 + 3 * i) = 3 ∨ F (20 + 3 * i) = 5 then 1 else 0) t + 1) (lv' := [(1, .int (iI (sI (fun i => if F (20 + 3 * i) = 3 ∨ F (20 + 3 * i) = 5 then 1 else 0) t + 1))), (2, .int (iI (t))), (0, .ref (a (26 + f)))]) C 1 dX1_bulls_25 rfl (by omega) (by decide) rfl ?_
      refine v_iinc (z' := t + 1) (lv' := [(2, .int (iI (t + 1))), (1, .int (iI (sI (fun i => if F (20 + 3 * i) = 3 ∨ F (20 + 3 * i) = 5 then 1 else 0) t + 1))), (0, .ref (a (26 + f)))]) C 1 dX1_bulls_28 rfl (by omega) (by decide) rfl ?_
      refine v_goto (tgt := 4) C dX1_bulls_31 (by decide) ?_
      refine v_lv (congrArg (fun x9 => ([(2, .int (iI (t + 1))), (1, .int (iI x9)), (0, .ref (a (26 + f)))] : List (Nat × Value))) (show (sI (fun i => if F (20 + 3 * i) = 3 ∨ F (20 + 3 * i) = 5 then 1 else 0) t + 1) = (sI (fun i => if F (20 + 3 * i) = 3 ∨ F (20 + 3 * i) = 5 then 1 else 0) (t + 1)) by first | rfl | (rw [sI_s _ (by omega)]; (first | (rw [if_pos (by omega)]) | (rw [if_neg (by omega)]; omega))))) ?_
      exact ih4 (t + 1) (by omega) (by omega)
