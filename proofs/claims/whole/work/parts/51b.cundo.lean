set_option maxRecDepth 100000 in
set_option maxHeartbeats 4000000 in
theorem c_X1_undoDeed_c (l : Launch) (D : va_G) (yc : Nat → ClassId) (t1 t2 : Nat) (a : Int → Nat) (A : Nat → Prop) (g : Mm) (f k th : Int) (hf : 0 ≤ f ∧ f < 5) (hk : R32 k) (ht : ¬ k = 0 → R32 th) : Cv l yX1_undoDeed wsX1_undoDeed { frames := 1, cells := 0, slots := 0, locals := 21 } D yc t1 t2 A (cw a yc) [.ref (a (26 + f)), .int (iI (k)), .int (iI (th))] g (fun g' => g' = (un1 g f k th)) := by
  refine start_v (cc := cX1_undoDeed) (nL := 3) (ret := none) (own := RX1) (by decide +kernel) rfl rfl (Nat.le_of_ble_eq_true rfl) ?_
  intro p e s m9 below meth c9 C
  have wstX4_isNone : Cond.static yX4_isNone ∈ wsX1_undoDeed := by decide +kernel
  have winiX4_isNone : Cond.initialized yX4_isNone.cls ∈ wsX1_undoDeed := by decide +kernel
  have wf20 : Cond.fieldLink RX1 20 (TX1 2).1 (TX1 2).2.1 (TX1 2).2.2.1 ∈ wsX1_undoDeed := by decide +kernel
  have hinX1 : ∀ w ∈ u_ws RX1 TX1 11, w ∈ wsX1_undoDeed := by decide +kernel
  have wf62 : Cond.fieldLink RX1 62 (TX0 2).1 (TX0 2).2.1 (TX0 2).2.2.1 ∈ wsX1_undoDeed := by decide +kernel
  have hinX0 : ∀ w ∈ u_ws RX0 TX0 5, w ∈ wsX1_undoDeed := by decide +kernel
  have wf47 : Cond.fieldLink RX1 47 (TX1 10).1 (TX1 10).2.1 (TX1 10).2.2.1 ∈ wsX1_undoDeed := by decide +kernel
  have wf44 : Cond.fieldLink RX1 44 (TX1 9).1 (TX1 9).2.1 (TX1 9).2.2.1 ∈ wsX1_undoDeed := by decide +kernel
  refine v_lv (lv' := [(0, .ref (a (26 + f))), (1, .int (iI (k))), (2, .int (iI (th)))]) rfl ?_
  refine v_iload_n C 1 dX1_undoDeed_0 rfl ?_
  refine v_if_ne (tgt := 17) C dX1_undoDeed_1 (by decide) (by omega) (fun c1 => ?_) (fun c1 => ?_)
  · skip
    have ht9 := ht (by omega)
    refine v_iload_n C 1 dX1_undoDeed_17 rfl ?_
    refine v_iconst C dX1_undoDeed_18 ?_
    refine v_icmp_ne (tgt := 35) C dX1_undoDeed_19 (by decide) (by omega) (by omega) (fun c19 => ?_) (fun c19 => ?_)
    · skip
      refine v_iload_n C 2 dX1_undoDeed_35 rfl ?_
      refine v_bipush C dX1_undoDeed_36 (by decide) ?_
      refine v_cN_i C (As := [.int (iI (th)), .int (iI (6))]) (rest := []) (c_X4_isNone l D yc t1 t2 A (cw a yc) g th 6 (by omega) (by omega)) ⟨va_cnB 2 C.hts gX1_undoDeed_X4_isNone_n73 rfl rfl rfl C.hF.2.2.2.1.1 (C.hts _ winiX4_isNone) (by decide +kernel) ⟨by decide, by decide⟩, C.hts _ wstX4_isNone, trivial⟩ rfl rfl (Nat.le_of_ble_eq_true rfl) dX1_undoDeed_38 ?_
      intro r9 g9 h9
      rw [h9.1, h9.2]
      clear h9 g9 r9
      try dsimp only
      refine v_ifb_ne (tgt := 64) C dX1_undoDeed_41 (by decide) (fun c41 => ?_) (fun c41 => ?_)
      · skip
        exact v_ret_v C rfl dX1_undoDeed_64 (by unfold un1; simp [*] <;> omega)
      · skip
        refine v_aload_n C 0 dX1_undoDeed_44 rfl ?_
        refine v_getf C (by omega) (by omega) (ct_farm (by omega) (by omega)) rfl 2 (by decide) wf20 hinX1 rfl dX1_undoDeed_45 ?_
        refine v_iload_n C 2 dX1_undoDeed_48 rfl ?_
        refine v_aaload (f := fun j => 56 + 6 * f + j) C (by omega) (by omega) 2 rfl (ct_beastsA (by omega) (by omega)) (by omega) (by omega) (by decide) dX1_undoDeed_49 ?_
        refine v_iconst C dX1_undoDeed_50 ?_
        refine v_aload_n C 0 dX1_undoDeed_51 rfl ?_
        refine v_getf C (by omega) (by omega) (ct_farm (by omega) (by omega)) rfl 2 (by decide) wf20 hinX1 rfl dX1_undoDeed_52 ?_
        refine v_iload_n C 2 dX1_undoDeed_55 rfl ?_
        refine v_aaload (f := fun j => 56 + 6 * f + j) C (by omega) (by omega) 2 rfl (ct_beastsA (by omega) (by omega)) (by omega) (by omega) (by decide) dX1_undoDeed_56 ?_
        refine v_getf C (by omega) (by omega) (ct_beast (by omega) (by omega) (by omega) (by omega)) rfl 2 (by decide) wf62 hinX0 rfl dX1_undoDeed_57 ?_
        refine v_isub C dX1_undoDeed_60 ?_
        refine v_puti C (cta_L a yc) (by omega) (by omega) (ct_beast (by omega) (by omega) (by omega) (by omega)) rfl 2 (by decide) wf62 hinX0 tyX0 tyX0_ok nmX0 rfl (by decide +kernel) (by simp) (cs_beast_2 (by omega) (by omega) (by omega) (by omega)) dX1_undoDeed_61 ?_
        refine v_g (g' := (mu g (56 + 6 * f + th) (2) (1 - (g (56 + 6 * f + th) (2))))) rfl ?_
        exact v_ret_v C rfl dX1_undoDeed_64 (by unfold un1; simp [*] <;> omega)
    · skip
      refine v_aload_n C 0 dX1_undoDeed_22 rfl ?_
      refine v_dup C dX1_undoDeed_23 rfl ?_
      refine v_getf C (by omega) (by omega) (ct_farm (by omega) (by omega)) rfl 10 (by decide) wf47 hinX1 rfl dX1_undoDeed_24 ?_
      refine v_iload_n C 2 dX1_undoDeed_27 rfl ?_
      refine v_isub C dX1_undoDeed_28 ?_
      refine v_puti C (cta_L a yc) (by omega) (by omega) (ct_farm (by omega) (by omega)) rfl 10 (by decide) wf47 hinX1 tyX1 tyX1_ok nmX1 rfl (by decide +kernel) (by simp) (cs_farm_10 (by omega) (by omega)) dX1_undoDeed_29 ?_
      refine v_g (g' := (mu g (26 + f) (10) ((g (26 + f) (10)) - th))) rfl ?_
      refine v_goto (tgt := 64) C dX1_undoDeed_32 (by decide) ?_
      exact v_ret_v C rfl dX1_undoDeed_64 (by unfold un1; simp [*] <;> omega)
  · skip
    refine v_aload_n C 0 dX1_undoDeed_4 rfl ?_
    refine v_dup C dX1_undoDeed_5 rfl ?_
    refine v_getf C (by omega) (by omega) (ct_farm (by omega) (by omega)) rfl 9 (by decide) wf44 hinX1 rfl dX1_undoDeed_6 ?_
    refine v_iconst C dX1_undoDeed_9 ?_
    refine v_isub C dX1_undoDeed_10 ?_
    refine v_puti C (cta_L a yc) (by omega) (by omega) (ct_farm (by omega) (by omega)) rfl 9 (by decide) wf44 hinX1 tyX1 tyX1_ok nmX1 rfl (by decide +kernel) (by simp) (cs_farm_9 (by omega) (by omega)) dX1_undoDeed_11 ?_
    refine v_g (g' := (mu g (26 + f) (9) ((g (26 + f) (9)) - 1))) rfl ?_
    refine v_goto (tgt := 64) C dX1_undoDeed_14 (by decide) ?_
    exact v_ret_v C rfl dX1_undoDeed_64 (by unfold un1; simp [*] <;> omega)

set_option maxRecDepth 100000 in
set_option maxHeartbeats 4000000 in
theorem c_X1_undoFrom_c (l : Launch) (D : va_G) (yc : Nat → ClassId) (t1 t2 : Nat) (a : Int → Nat) (A : Nat → Prop) (g : Mm) (f n : Int) (hf : 0 ≤ f ∧ f < 5) (hd : 0 ≤ g (26 + f) 8 ∧ g (26 + f) 8 ≤ 60) (hn : 0 ≤ n ∧ n ≤ g (26 + f) 8) (HK : ∀ j, 0 ≤ j → j < g (26 + f) 8 → R32 (g (46 + f) j) ∧ (¬ g (46 + f) j = 0 → R32 (g (51 + f) j))) : Cv l yX1_undoFrom wsX1_undoFrom { frames := 2, cells := 0, slots := 0, locals := 43 } D yc t1 t2 A (cw a yc) [.ref (a (26 + f)), .int (iI (n))] g (fun g' => g' = (unN g f (g (26 + f) 8) (g (26 + f) 8 - n).toNat)) := by
  refine start_v (cc := cX1_undoFrom) (nL := 3) (ret := none) (own := RX1) (by decide +kernel) rfl rfl (Nat.le_of_ble_eq_true rfl) ?_
  intro p e s m9 below meth c9 C
  have wf41 : Cond.fieldLink RX1 41 (TX1 8).1 (TX1 8).2.1 (TX1 8).2.2.1 ∈ wsX1_undoFrom := by decide +kernel
  have hinX1 : ∀ w ∈ u_ws RX1 TX1 11, w ∈ wsX1_undoFrom := by decide +kernel
  have wf24 : Cond.fieldLink RX1 24 (TX1 3).1 (TX1 3).2.1 (TX1 3).2.2.1 ∈ wsX1_undoFrom := by decide +kernel
  have wf27 : Cond.fieldLink RX1 27 (TX1 4).1 (TX1 4).2.1 (TX1 4).2.2.1 ∈ wsX1_undoFrom := by decide +kernel
  refine v_lv (lv' := [(0, .ref (a (26 + f))), (1, .int (iI (n)))]) rfl ?_
  refine v_aload_n C 0 dX1_undoFrom_0 rfl ?_
  refine v_getf C (by omega) (by omega) (ct_farm (by omega) (by omega)) rfl 8 (by decide) wf41 hinX1 rfl dX1_undoFrom_1 ?_
  refine v_iconst C dX1_undoFrom_4 ?_
  refine v_isub C dX1_undoFrom_5 ?_
  refine v_istore_n (lv' := [(2, .int (iI ((g (26 + f) (8)) - 1))), (0, .ref (a (26 + f))), (1, .int (iI (n)))]) C dX1_undoFrom_6 (by decide) rfl ?_
  refine v_g (g' := (unN g f (g (26 + f) 8) (g (26 + f) 8 - 1 - (g (26 + f) 8 - 1)).toNat)) (by rw [show (g (26 + f) 8 - 1 - (g (26 + f) 8 - 1)).toNat = 0 by omega]; rfl) ?_
  refine v_lv (congrArg (fun x9 => ([(2, .int (iI x9)), (0, .ref (a (26 + f))), (1, .int (iI (n)))] : List (Nat × Value))) (show ((g (26 + f) (8)) - 1) = (((g (26 + f) 8 - 1))) by first | rfl | omega | (simp; done))) ?_
  refine v_loop1 (fun (x : Int) => (x + 1).toNat) (fun (x : Int) => n - 1 ≤ x ∧ x ≤ g (26 + f) 8 - 1) (fun (x : Int) => [(2, .int (iI (x))), (0, .ref (a (26 + f))), (1, .int (iI (n)))]) (fun (x : Int) => (unN g f (g (26 + f) 8) (g (26 + f) 8 - 1 - x).toNat)) ?_ (g (26 + f) 8 - 1) (by omega)
  intro x hI7 ih7
  try dsimp only at ih7 ⊢
  refine v_iload_n C 0 dX1_undoFrom_7 rfl ?_
  refine v_iload_n C 2 dX1_undoFrom_8 rfl ?_
  refine v_icmp_lt (tgt := 43) C dX1_undoFrom_9 (by decide) (by omega) (by omega) (fun c9 => ?_) (fun c9 => ?_)
  · skip
    exact v_ret_v C rfl dX1_undoFrom_43 (by rw [show (g (26 + f) 8 - 1 - x).toNat = (g (26 + f) 8 - n).toNat by omega])
  · skip
    refine v_iload_n C 0 dX1_undoFrom_12 rfl ?_
    refine v_if_lt (tgt := 43) C dX1_undoFrom_13 (by decide) (by omega) (fun c13 => ?_) (fun c13 => ?_)
    · exact absurd c13 (by omega)
    · skip
      refine v_aload_n C 1 dX1_undoFrom_16 rfl ?_
      refine v_aload_n C 1 dX1_undoFrom_17 rfl ?_
      refine v_getf C (by omega) (by omega) (ct_farm (by omega) (by omega)) rfl 3 (by decide) wf24 hinX1 rfl dX1_undoFrom_18 ?_
      refine v_iload_n C 0 dX1_undoFrom_21 rfl ?_
      refine v_iaload C (by omega) (by omega) (ct_dk (by omega) (by omega)) (by omega) (by omega) (by decide) dX1_undoFrom_22 ?_
      refine v_aload_n C 1 dX1_undoFrom_23 rfl ?_
      refine v_getf C (by omega) (by omega) (ct_farm (by omega) (by omega)) rfl 4 (by decide) wf27 hinX1 rfl dX1_undoFrom_24 ?_
      refine v_iload_n C 0 dX1_undoFrom_27 rfl ?_
      refine v_iaload C (by omega) (by omega) (ct_dt (by omega) (by omega)) (by omega) (by omega) (by decide) dX1_undoFrom_28 ?_
      refine v_cV_v C (As := [.int (iI ((unN g f (g (26 + f) 8) (g (26 + f) 8 - 1 - x).toNat) (46 + f) (x))), .int (iI ((unN g f (g (26 + f) 8) (g (26 + f) 8 - 1 - x).toNat) (51 + f) (x)))]) (rest := []) (c_X1_undoDeed_c l D yc t1 t2 a A (unN g f (g (26 + f) 8) (g (26 + f) 8 - 1 - x).toNat) f ((unN g f (g (26 + f) 8) (g (26 + f) 8 - 1 - x).toNat) (46 + f) (x)) ((unN g f (g (26 + f) 8) (g (26 + f) 8 - 1 - x).toNat) (51 + f) (x)) (by omega) (by rw [unN_o (by omega) (by omega)]; exact (HK _ (by omega) (by omega)).1) (by rw [unN_o (by omega) (by omega), unN_o (by omega) (by omega)]; exact (HK _ (by omega) (by omega)).2)) (cwV 2 C.hts gX1_undoFrom_X1_undoDeed rfl rfl rfl (by decide +kernel) ⟨by decide, by decide⟩) (fun H hP => va_recv C.hK hP (ci := 1) (q0 := (26 + f : Int).toNat) rfl (wo_is (by omega) (by omega) (ct_farm (by omega) (by omega)))) rfl rfl (Nat.le_of_ble_eq_true rfl) dX1_undoFrom_29 ?_
      intro g9 h9
      rw [h9]
      clear h9 g9
      try dsimp only
      refine v_aload_n C 1 dX1_undoFrom_32 rfl ?_
      refine v_iload_n C 0 dX1_undoFrom_33 rfl ?_
      refine v_puti C (cta_L a yc) (by omega) (by omega) (ct_farm (by omega) (by omega)) rfl 8 (by decide) wf41 hinX1 tyX1 tyX1_ok nmX1 rfl (by decide +kernel) (by simp) (cs_farm_8 (by omega) (by omega)) dX1_undoFrom_34 ?_
      refine v_g (g' := (mu ((un1 ((unN g f (g (26 + f) 8) (g (26 + f) 8 - 1 - x).toNat)) f ((unN g f (g (26 + f) 8) (g (26 + f) 8 - 1 - x).toNat) (46 + f) (x)) ((unN g f (g (26 + f) 8) (g (26 + f) 8 - 1 - x).toNat) (51 + f) (x)))) (26 + f) (8) (x))) rfl ?_
      refine v_iinc (z' := x - 1) (lv' := [(2, .int (iI (x - 1))), (0, .ref (a (26 + f))), (1, .int (iI (n)))]) C 0 dX1_undoFrom_37 rfl (by omega) (by decide) rfl ?_
      refine v_goto (tgt := 7) C dX1_undoFrom_40 (by decide) ?_
      exact v_g (by rw [show (g (26 + f) 8 - 1 - (x - 1)).toNat = (g (26 + f) 8 - 1 - x).toNat + 1 by omega]; show _ = mu _ _ _ _; rw [show g (26 + f) 8 - 1 - ((g (26 + f) 8 - 1 - x).toNat : Int) = x by omega]) (ih7 (x - 1) (by omega) (by omega))

set_option maxRecDepth 100000 in
set_option maxHeartbeats 4000000 in
theorem c_X4_undo_c (l : Launch) (D : va_G) (yc : Nat → ClassId) (t1 t2 : Nat) (a : Int → Nat) (A : Nat → Prop) (g : Mm) (n : Int) (F : Int → Int) (hn : R32 n) (HF : FR g 0 F) (HI : FI F) : Ci l yX4_undo wsX4_undo { frames := 3, cells := 0, slots := 0, locals := 65 } D yc t1 t2 A (cw a yc) [.ref (a (0)), .int (iI (n))] g (fun r9 g' => r9 = (iI (if n < 0 ∨ F 4 < n then -1 else F 4 - n)) ∧ g' = (if n < 0 ∨ F 4 < n then g else unN g 0 (F 4) (F 4 - n).toNat)) := by
  refine start_i (cc := cX4_undo) (nL := 3) (ret := (some .int)) (own := RX4) (by decide +kernel) rfl rfl (Nat.le_of_ble_eq_true rfl) ?_
  intro p e s m9 below meth c9 C
  have wf21 : Cond.fieldLink RX4 21 (TX4 2).1 (TX4 2).2.1 (TX4 2).2.2.1 ∈ wsX4_undo := by decide +kernel
  have hinX4 : ∀ w ∈ u_ws RX4 TX4 10, w ∈ wsX4_undo := by decide +kernel
  have wf151 : Cond.fieldLink RX4 151 (TX1 8).1 (TX1 8).2.1 (TX1 8).2.2.1 ∈ wsX4_undo := by decide +kernel
  have hinX1 : ∀ w ∈ u_ws RX1 TX1 11, w ∈ wsX4_undo := by decide +kernel
  have hn := HI.n
  refine v_lv (lv' := [(0, .ref (a (0))), (1, .int (iI (n)))]) rfl ?_
  refine v_iload_n C 1 dX4_undo_0 rfl ?_
  refine v_iconst C dX4_undo_1 ?_
  refine v_aload_n C 0 dX4_undo_2 rfl ?_
  refine v_getf C (by omega) (by omega) ct_cow rfl 2 (by decide) wf21 hinX4 rfl dX4_undo_3 ?_
  refine v_st (st' := [.ref (a (26 + 0)), .int (iI (0)), .int (iI (n))]) rfl ?_
  refine v_getf C (by omega) (by omega) (ct_farm (by omega) (by omega)) rfl 8 (by decide) wf151 hinX1 rfl dX4_undo_6 ?_
  refine v_st (st' := [.int (iI (F 4)), .int (iI (0)), .int (iI (n))]) (by rw [HF.dc]) ?_
  refine v_cS_i C (As := [.int (iI (n)), .int (iI (0)), .int (iI (F 4))]) (rest := []) (c_X4_outside l D yc t1 t2 A (cw a yc) g n 0 (F 4) (by omega) (by omega) (by omega)) (va_cwS 3 C.hts gX4_undo_X4_outside rfl rfl rfl (by decide +kernel) ⟨by decide, by decide⟩) rfl rfl (Nat.le_of_ble_eq_true rfl) dX4_undo_9 ?_
  intro r9 g9 h9
  rw [h9.1, h9.2]
  clear h9 g9 r9
  try dsimp only
  refine v_ifb_eq (tgt := 17) C dX4_undo_12 (by decide) (fun c12 => ?_) (fun c12 => ?_)
  · skip
    refine v_aload_n C 0 dX4_undo_17 rfl ?_
    refine v_getf C (by omega) (by omega) ct_cow rfl 2 (by decide) wf21 hinX4 rfl dX4_undo_18 ?_
    refine v_st (st' := [.ref (a (26 + 0))]) rfl ?_
    refine v_getf C (by omega) (by omega) (ct_farm (by omega) (by omega)) rfl 8 (by decide) wf151 hinX1 rfl dX4_undo_21 ?_
    refine v_st (st' := [.int (iI (F 4))]) (by rw [HF.dc]) ?_
    refine v_iload_n C 1 dX4_undo_24 rfl ?_
    refine v_isub C dX4_undo_25 ?_
    refine v_istore_n (lv' := [(2, .int (iI ((F 4) - n))), (0, .ref (a (0))), (1, .int (iI (n)))]) C dX4_undo_26 (by decide) rfl ?_
    refine v_aload_n C 1 dX4_undo_27 rfl ?_
    refine v_getf C (by omega) (by omega) ct_cow rfl 2 (by decide) wf21 hinX4 rfl dX4_undo_28 ?_
    refine v_st (st' := [.ref (a (26 + 0))]) rfl ?_
    refine v_iload_n C 2 dX4_undo_31 rfl ?_
    refine v_cV_v C (As := [.int (iI (n))]) (rest := []) (c_X1_undoFrom_c l D yc t1 t2 a A g 0 n (by omega) (by rw [HF.dc]; omega) (by rw [HF.dc]; omega) (fun j a b => undo_R HF a (by rw [HF.dc] at b; exact b))) (cwV 1 C.hts gX4_undo_X1_undoFrom rfl rfl rfl (by decide +kernel) ⟨by decide, by decide⟩) (fun H hP => va_recv C.hK hP (ci := 1) (q0 := (26 + 0 : Int).toNat) rfl (wo_is (by omega) (by omega) (ct_farm (by omega) (by omega)))) rfl rfl (Nat.le_of_ble_eq_true rfl) dX4_undo_32 ?_
    intro g9 h9
    rw [h9]
    clear h9 g9
    try dsimp only
    refine v_g (g' := (unN g 0 (F 4) (F 4 - n).toNat)) (by rw [HF.dc]) ?_
    refine v_iload_n C 0 dX4_undo_35 rfl ?_
    exact v_ret_i C rfl dX4_undo_36 ⟨(by repeat (first | rfl | rw [if_pos (by omega)] | rw [if_neg (by omega)])), (by repeat (first | rfl | rw [if_pos (by omega)] | rw [if_neg (by omega)]))⟩
  · skip
    refine v_iconst C dX4_undo_15 ?_
    exact v_ret_i C rfl dX4_undo_16 ⟨(by repeat (first | rfl | rw [if_pos (by omega)] | rw [if_neg (by omega)])), (by repeat (first | rfl | rw [if_pos (by omega)] | rw [if_neg (by omega)]))⟩
