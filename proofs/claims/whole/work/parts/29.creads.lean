set_option maxRecDepth 100000 in
set_option maxHeartbeats 4000000 in
theorem c_X2_readTurns (l : Launch) (D : va_G) (yc : Nat → ClassId) (t1 t2 : Nat) (a : Int → Nat) (A : Nat → Prop) (g : Mm) (r : Int) (g0 : Mm) (Dr : Int → Int) (pl : Int) (hr : 6 ≤ r ∧ r < 10) (HR : CR g0 g Dr pl) (hL : -1 ≤ g0 (6 + r) 1 ∧ g0 (6 + r) 1 ≤ 60) (HB : ∀ j, -128 ≤ g0 (16 + r) j ∧ g0 (16 + r) j ≤ 127) (hp : 0 ≤ pl ∧ pl ≤ 60) (hD : Dr 1 = 0) : Ci l yX2_readTurns wsX2_readTurns { frames := 3, cells := 0, slots := 0, locals := 64 } D yc t1 t2 A (cw a yc) [.ref (a (4)), .ref (a (6 + r))] g (fun r9 g' => r9 = bI (iW (fun x9 => g0 (16 + r) x9) (g0 (6 + r) 1) 116 97 98 8 pl = 1) ∧ CR g0 g' (iD (fun x9 => g0 (16 + r) x9) (g0 (6 + r) 1) 116 97 98 6 1 8 pl Dr) (iP (fun x9 => g0 (16 + r) x9) (g0 (6 + r) 1) 116 97 98 8 pl)) := by
  refine start_i (cc := cX2_readTurns) (nL := 2) (ret := (some .boolean)) (own := RX2) (by decide +kernel) rfl rfl (Nat.le_of_ble_eq_true rfl) ?_
  intro p e s m9 below meth c9 C
  have wf21 : Cond.fieldLink RX2 21 (TX2 1).1 (TX2 1).2.1 (TX2 1).2.2.1 ∈ wsX2_readTurns := by decide +kernel
  have hinX2 : ∀ w ∈ u_ws RX2 TX2 2, w ∈ wsX2_readTurns := by decide +kernel
  have wf43 : Cond.fieldLink RX2 43 (TX3 1).1 (TX3 1).2.1 (TX3 1).2.2.1 ∈ wsX2_readTurns := by decide +kernel
  have hinX3 : ∀ w ∈ u_ws RX3 TX3 2, w ∈ wsX2_readTurns := by decide +kernel
  have wf12 : Cond.fieldLink RX2 12 (TX2 0).1 (TX2 0).2.1 (TX2 0).2.2.1 ∈ wsX2_readTurns := by decide +kernel
  have wf60 : Cond.fieldLink RX2 60 (TX1 5).1 (TX1 5).2.1 (TX1 5).2.2.1 ∈ wsX2_readTurns := by decide +kernel
  have hinX1 : ∀ w ∈ u_ws RX1 TX1 11, w ∈ wsX2_readTurns := by decide +kernel
  have wf48 : Cond.fieldLink RX2 48 (TX3 0).1 (TX3 0).2.1 (TX3 0).2.2.1 ∈ wsX2_readTurns := by decide +kernel
  have hrl : ((rlen r : Nat) : Int) = 60 := by unfold rlen; rw [if_neg (by omega)]; rfl
  have hsr := sk_r (fun x9 => g0 (16 + r) x9) (L := (g0 (6 + r) 1)) (p := pl) hL.2 hp.2
  refine v_lv (lv' := [(0, .ref (a (4))), (1, .ref (a (6 + r)))]) rfl ?_
  refine v_aload_n C 0 dX2_readTurns_0 rfl ?_
  refine v_aload_n C 1 dX2_readTurns_1 rfl ?_
  refine v_cV_v C (As := [.ref (a (6 + r))]) (rest := []) (c_X2_skipBlanks l D yc t1 t2 a A g r (by omega) (by rw [HR.L hr.1 hr.2]; exact hL) (fun j => by rw [HR.B hr.1 hr.2]; exact HB j) (by rw [HR.p]; omega)) (cwV 1 C.hts gX2_readTurns_X2_skipBlanks rfl rfl rfl (by decide +kernel) ⟨by decide, by decide⟩) (fun H hP => va_recv C.hK hP (ci := 2) (q0 := (4 : Int).toNat) rfl (wo_is (by omega) (by omega) ct_reader)) rfl rfl (Nat.le_of_ble_eq_true rfl) dX2_readTurns_2 ?_
  intro g9 h9
  rw [h9]
  clear h9 g9
  try dsimp only
  obtain ⟨h5, hm5, H5⟩ : ∃ h, mu g 4 1 (sk (fun x9 => g (16 + r) x9) (g (6 + r) 1) (g 4 1)) = h ∧ CR g0 h Dr (sk (fun x9 => g0 (16 + r) x9) (g0 (6 + r) 1) pl) := ⟨_, rfl, by rw [HR.B hr.1 hr.2, HR.L hr.1 hr.2, HR.p]; exact CR_p HR _⟩
  refine v_g (g' := h5) hm5 ?_
  refine v_aload_n C 0 dX2_readTurns_5 rfl ?_
  refine v_aload_n C 1 dX2_readTurns_6 rfl ?_
  refine v_bipush C dX2_readTurns_7 (by decide) ?_
  refine v_cV_i C (As := [.ref (a (6 + r)), .int (iI (116))]) (rest := []) (c_X2_take l D yc t1 t2 a A h5 r 116 (by omega) (by rw [H5.L hr.1 hr.2]; exact hL) (fun j => by rw [H5.B hr.1 hr.2]; exact HB j) (by rw [H5.p]; omega) (by omega)) (cwV 2 C.hts gX2_readTurns_X2_take rfl rfl rfl (by decide +kernel) ⟨by decide, by decide⟩) (fun H hP => va_recv C.hK hP (ci := 2) (q0 := (4 : Int).toNat) rfl (wo_is (by omega) (by omega) ct_reader)) rfl rfl (Nat.le_of_ble_eq_true rfl) dX2_readTurns_9 ?_
  intro r9 g9 h9
  rw [h9.1, h9.2]
  clear h9 g9 r9
  try dsimp only
  have e5 : sg (fun x9 => h5 (16 + r) x9) (h5 (6 + r) 1) (h5 4 1) = sg (fun x9 => g0 (16 + r) x9) (g0 (6 + r) 1) (sk (fun x9 => g0 (16 + r) x9) (g0 (6 + r) 1) pl) := (by rw [H5.B hr.1 hr.2, H5.L hr.1 hr.2, H5.p])
  have e6 : (sg (fun x9 => h5 (16 + r) x9) (h5 (6 + r) 1) (h5 4 1) = 116) ↔ (lk (fun x9 => g0 (16 + r) x9) (g0 (6 + r) 1) (sk (fun x9 => g0 (16 + r) x9) (g0 (6 + r) 1) pl) = 116) := (by rw [e5]; exact sg_lk (by decide) (by decide))
  refine v_ifb_ne (tgt := 17) C dX2_readTurns_12 (by decide) (fun c12 => ?_) (fun c12 => ?_)
  · skip
    refine v_g (g' := (mu h5 4 1 (h5 4 1 + 1))) (by rw [if_pos c12]) ?_
    refine v_loop2 (fun (h : Mm) (k : Int) => (8 - k).toNat) (fun (h : Mm) (k : Int) => CR g0 h (rD (fun x9 => g0 (16 + r) x9) (g0 (6 + r) 1) 97 6 1 (sk (fun x9 => g0 (16 + r) x9) (g0 (6 + r) 1) pl + 1) Dr k.toNat) ((sk (fun x9 => g0 (16 + r) x9) (g0 (6 + r) 1) pl + 1) + k) ∧ 0 ≤ k ∧ k ≤ 8 ∧ (sk (fun x9 => g0 (16 + r) x9) (g0 (6 + r) 1) pl + 1) + k ≤ 60 ∧ ff (ntP (fun x9 => g0 (16 + r) x9) (g0 (6 + r) 1) 97 98) ((sk (fun x9 => g0 (16 + r) x9) (g0 (6 + r) 1) pl + 1) + 9 - ((sk (fun x9 => g0 (16 + r) x9) (g0 (6 + r) 1) pl + 1) + k)).toNat ((sk (fun x9 => g0 (16 + r) x9) (g0 (6 + r) 1) pl + 1) + k) = rX (fun x9 => g0 (16 + r) x9) (g0 (6 + r) 1) 97 98 8 (sk (fun x9 => g0 (16 + r) x9) (g0 (6 + r) 1) pl + 1)) (fun (h : Mm) (k : Int) => [(0, .ref (a (4))), (1, .ref (a (6 + r)))]) (fun (h : Mm) (k : Int) => h) ?_ (mu h5 4 1 (h5 4 1 + 1)) 0 ⟨by rw [H5.p, Int.add_zero]; exact CR_p H5 _, by omega, by omega, by have := lk_32 (B := (fun x9 => g0 (16 + r) x9)) (L := (g0 (6 + r) 1)) (p := sk (fun x9 => g0 (16 + r) x9) (g0 (6 + r) 1) pl) (by have := e6.mp c12; omega); omega, by unfold rX; rw [show ((sk (fun x9 => g0 (16 + r) x9) (g0 (6 + r) 1) pl + 1) + 9 - ((sk (fun x9 => g0 (16 + r) x9) (g0 (6 + r) 1) pl + 1) + 0)).toNat = 8+1 by omega, Int.add_zero]⟩
    intro h k hI17 ih17
    try dsimp only at ih17 ⊢
    have hlb := lk_bd (B := (fun x9 => g0 (16 + r) x9)) HB (g0 (6 + r) 1) ((sk (fun x9 => g0 (16 + r) x9) (g0 (6 + r) 1) pl + 1) + k)
    have hck : rD (fun x9 => g0 (16 + r) x9) (g0 (6 + r) 1) 97 6 1 (sk (fun x9 => g0 (16 + r) x9) (g0 (6 + r) 1) pl + 1) Dr k.toNat 1 = k := rD_0 _ _ _ _ _ _ _ hD hI17.2.1
    have hfl := fl_r (lk (fun x9 => g0 (16 + r) x9) (g0 (6 + r) 1) ((sk (fun x9 => g0 (16 + r) x9) (g0 (6 + r) 1) pl + 1) + k))
    have hcc : h (26 + 4) 5 = k := (by rw [hI17.1.tc, hck])
    have hl13 := e6.mp c12
    refine v_aload_n C 0 dX2_readTurns_17 rfl ?_
    refine v_getf C (by omega) (by omega) ct_reader rfl 1 (by decide) wf21 hinX2 rfl dX2_readTurns_18 ?_
    refine v_st (st' := [.int (iI ((sk (fun x9 => g0 (16 + r) x9) (g0 (6 + r) 1) pl + 1) + k))]) (by rw [hI17.1.p]; try rfl) ?_
    refine v_aload_n C 1 dX2_readTurns_21 rfl ?_
    refine v_getf C (by omega) (by omega) (ct_row (by omega) (by omega)) rfl 1 (by decide) wf43 hinX3 rfl dX2_readTurns_22 ?_
    refine v_st (st' := [.int (iI (g0 (6 + r) 1)), .int (iI ((sk (fun x9 => g0 (16 + r) x9) (g0 (6 + r) 1) pl + 1) + k))]) (by rw [hI17.1.L hr.1 hr.2]; try rfl) ?_
    refine v_icmp_ge (tgt := 82) C dX2_readTurns_25 (by decide) (by omega) (by omega) (fun c25 => ?_) (fun c25 => ?_)
    · skip
      refine v_aload_n C 0 dX2_readTurns_82 rfl ?_
      refine v_getf C (by omega) (by omega) ct_reader rfl 0 (by decide) wf12 hinX2 rfl dX2_readTurns_83 ?_
      refine v_st (st' := [.ref (a (26 + 4))]) rfl ?_
      refine v_getf C (by omega) (by omega) (ct_farm (by omega) (by omega)) rfl 5 (by decide) wf60 hinX1 rfl dX2_readTurns_86 ?_
      refine v_st (st' := [.int (iI (k))]) (by rw [hI17.1.tc, hck]) ?_
      refine v_if_le (tgt := 96) C dX2_readTurns_89 (by decide) (by omega) (fun c89 => ?_) (fun c89 => ?_)
      · skip
        refine v_iconst C dX2_readTurns_96 ?_
        exact v_ret_z C rfl (Or.inl rfl) dX2_readTurns_97 (by first | (have hnl : ¬ (97 ≤ lk (fun x9 => g0 (16 + r) x9) (g0 (6 + r) 1) ((sk (fun x9 => g0 (16 + r) x9) (g0 (6 + r) 1) pl + 1) + k) ∧ lk (fun x9 => g0 (16 + r) x9) (g0 (6 + r) 1) ((sk (fun x9 => g0 (16 + r) x9) (g0 (6 + r) 1) pl + 1) + k) ≤ 98) := (by first | (have hle := lk_e (B := (fun x9 => g0 (16 + r) x9)) (L := (g0 (6 + r) 1)) (p := (sk (fun x9 => g0 (16 + r) x9) (g0 (6 + r) 1) pl + 1) + k) (by omega); omega) | omega); have hz := it_y (B := (fun x9 => g0 (16 + r) x9)) (L := (g0 (6 + r) 1)) (c := 116) (lo := 97) (hi := 98) (bs := 6) (cs := 1) (p := pl) (mx := 8) (D := Dr) (k := k) hl13 (by omega) (by omega) (by rw [← hI17.2.2.2.2]; exact ff_y (by omega) (decide_eq_true hnl)); exact ⟨bI_t hz.2.1, by rw [hz.1, hz.2.2]; exact hI17.1⟩) | (have hk0 : k = 0 := (by omega); have hnl : ¬ (97 ≤ lk (fun x9 => g0 (16 + r) x9) (g0 (6 + r) 1) ((sk (fun x9 => g0 (16 + r) x9) (g0 (6 + r) 1) pl + 1) + k) ∧ lk (fun x9 => g0 (16 + r) x9) (g0 (6 + r) 1) ((sk (fun x9 => g0 (16 + r) x9) (g0 (6 + r) 1) pl + 1) + k) ≤ 98) := (by first | (have hle := lk_e (B := (fun x9 => g0 (16 + r) x9)) (L := (g0 (6 + r) 1)) (p := (sk (fun x9 => g0 (16 + r) x9) (g0 (6 + r) 1) pl + 1) + k) (by omega); omega) | omega); rw [hk0, Int.add_zero] at hnl; have hz := it_0 (B := (fun x9 => g0 (16 + r) x9)) (L := (g0 (6 + r) 1)) (c := 116) (lo := 97) (hi := 98) (bs := 6) (cs := 1) (p := pl) (mx := 8) (D := Dr) hl13 (by omega) (by rw [← hI17.2.2.2.2, hk0, Int.add_zero]; exact ff_y (by omega) (decide_eq_true hnl)); exact ⟨bI_f (by rw [hz.2.1]; decide), by rw [hz.1, hz.2.2]; have H := hI17.1; rw [hk0, Int.add_zero] at H; exact H⟩))
      · skip
        refine v_iconst C dX2_readTurns_92 ?_
        refine v_goto (tgt := 97) C dX2_readTurns_93 (by decide) ?_
        exact v_ret_z C rfl (Or.inr rfl) dX2_readTurns_97 (by first | (have hnl : ¬ (97 ≤ lk (fun x9 => g0 (16 + r) x9) (g0 (6 + r) 1) ((sk (fun x9 => g0 (16 + r) x9) (g0 (6 + r) 1) pl + 1) + k) ∧ lk (fun x9 => g0 (16 + r) x9) (g0 (6 + r) 1) ((sk (fun x9 => g0 (16 + r) x9) (g0 (6 + r) 1) pl + 1) + k) ≤ 98) := (by first | (have hle := lk_e (B := (fun x9 => g0 (16 + r) x9)) (L := (g0 (6 + r) 1)) (p := (sk (fun x9 => g0 (16 + r) x9) (g0 (6 + r) 1) pl + 1) + k) (by omega); omega) | omega); have hz := it_y (B := (fun x9 => g0 (16 + r) x9)) (L := (g0 (6 + r) 1)) (c := 116) (lo := 97) (hi := 98) (bs := 6) (cs := 1) (p := pl) (mx := 8) (D := Dr) (k := k) hl13 (by omega) (by omega) (by rw [← hI17.2.2.2.2]; exact ff_y (by omega) (decide_eq_true hnl)); exact ⟨bI_t hz.2.1, by rw [hz.1, hz.2.2]; exact hI17.1⟩) | (have hk0 : k = 0 := (by omega); have hnl : ¬ (97 ≤ lk (fun x9 => g0 (16 + r) x9) (g0 (6 + r) 1) ((sk (fun x9 => g0 (16 + r) x9) (g0 (6 + r) 1) pl + 1) + k) ∧ lk (fun x9 => g0 (16 + r) x9) (g0 (6 + r) 1) ((sk (fun x9 => g0 (16 + r) x9) (g0 (6 + r) 1) pl + 1) + k) ≤ 98) := (by first | (have hle := lk_e (B := (fun x9 => g0 (16 + r) x9)) (L := (g0 (6 + r) 1)) (p := (sk (fun x9 => g0 (16 + r) x9) (g0 (6 + r) 1) pl + 1) + k) (by omega); omega) | omega); rw [hk0, Int.add_zero] at hnl; have hz := it_0 (B := (fun x9 => g0 (16 + r) x9)) (L := (g0 (6 + r) 1)) (c := 116) (lo := 97) (hi := 98) (bs := 6) (cs := 1) (p := pl) (mx := 8) (D := Dr) hl13 (by omega) (by rw [← hI17.2.2.2.2, hk0, Int.add_zero]; exact ff_y (by omega) (decide_eq_true hnl)); exact ⟨bI_f (by rw [hz.2.1]; decide), by rw [hz.1, hz.2.2]; have H := hI17.1; rw [hk0, Int.add_zero] at H; exact H⟩))
    · skip
      refine v_aload_n C 1 dX2_readTurns_28 rfl ?_
      refine v_getf C (by omega) (by omega) (ct_row (by omega) (by omega)) rfl 0 (by decide) wf48 hinX3 rfl dX2_readTurns_29 ?_
      refine v_aload_n C 0 dX2_readTurns_32 rfl ?_
      refine v_getf C (by omega) (by omega) ct_reader rfl 1 (by decide) wf21 hinX2 rfl dX2_readTurns_33 ?_
      refine v_st (st' := [.int (iI ((sk (fun x9 => g0 (16 + r) x9) (g0 (6 + r) 1) pl + 1) + k)), .ref (a (16 + r))]) (by rw [hI17.1.p]; try rfl) ?_
      refine v_iaload C (by omega) (by omega) (ct_places (by omega) (by omega)) (by omega) (by omega) (by unfold rlen; split <;> decide) dX2_readTurns_36 ?_
      refine v_st (st' := [.int (iI (lk (fun x9 => g0 (16 + r) x9) (g0 (6 + r) 1) ((sk (fun x9 => g0 (16 + r) x9) (g0 (6 + r) 1) pl + 1) + k)))]) (by rw [hI17.1.B hr.1 hr.2, lk_i (by omega)]; try rfl) ?_
      refine v_cS_i C (As := [.int (iI (lk (fun x9 => g0 (16 + r) x9) (g0 (6 + r) 1) ((sk (fun x9 => g0 (16 + r) x9) (g0 (6 + r) 1) pl + 1) + k)))]) (rest := []) (c_X2_farmOfLetter l D yc t1 t2 A (cw a yc) h (lk (fun x9 => g0 (16 + r) x9) (g0 (6 + r) 1) ((sk (fun x9 => g0 (16 + r) x9) (g0 (6 + r) 1) pl + 1) + k)) (by omega)) (va_cwS 1 C.hts gX2_readTurns_X2_farmOfLetter rfl rfl rfl (by decide +kernel) ⟨by decide, by decide⟩) rfl rfl (Nat.le_of_ble_eq_true rfl) dX2_readTurns_37 ?_
      intro r9 g9 h9
      rw [h9.1, h9.2]
      clear h9 g9 r9
      try dsimp only
      refine v_bipush C dX2_readTurns_40 (by decide) ?_
      refine v_icmp_eq (tgt := 82) C dX2_readTurns_42 (by decide) (by omega) (by omega) (fun c42 => ?_) (fun c42 => ?_)
      · skip
        refine v_aload_n C 0 dX2_readTurns_82 rfl ?_
        refine v_getf C (by omega) (by omega) ct_reader rfl 0 (by decide) wf12 hinX2 rfl dX2_readTurns_83 ?_
        refine v_st (st' := [.ref (a (26 + 4))]) rfl ?_
        refine v_getf C (by omega) (by omega) (ct_farm (by omega) (by omega)) rfl 5 (by decide) wf60 hinX1 rfl dX2_readTurns_86 ?_
        refine v_st (st' := [.int (iI (k))]) (by rw [hI17.1.tc, hck]) ?_
        refine v_if_le (tgt := 96) C dX2_readTurns_89 (by decide) (by omega) (fun c89 => ?_) (fun c89 => ?_)
        · skip
          refine v_iconst C dX2_readTurns_96 ?_
          exact v_ret_z C rfl (Or.inl rfl) dX2_readTurns_97 (by first | (have hnl : ¬ (97 ≤ lk (fun x9 => g0 (16 + r) x9) (g0 (6 + r) 1) ((sk (fun x9 => g0 (16 + r) x9) (g0 (6 + r) 1) pl + 1) + k) ∧ lk (fun x9 => g0 (16 + r) x9) (g0 (6 + r) 1) ((sk (fun x9 => g0 (16 + r) x9) (g0 (6 + r) 1) pl + 1) + k) ≤ 98) := (by first | (have hle := lk_e (B := (fun x9 => g0 (16 + r) x9)) (L := (g0 (6 + r) 1)) (p := (sk (fun x9 => g0 (16 + r) x9) (g0 (6 + r) 1) pl + 1) + k) (by omega); omega) | omega); have hz := it_y (B := (fun x9 => g0 (16 + r) x9)) (L := (g0 (6 + r) 1)) (c := 116) (lo := 97) (hi := 98) (bs := 6) (cs := 1) (p := pl) (mx := 8) (D := Dr) (k := k) hl13 (by omega) (by omega) (by rw [← hI17.2.2.2.2]; exact ff_y (by omega) (decide_eq_true hnl)); exact ⟨bI_t hz.2.1, by rw [hz.1, hz.2.2]; exact hI17.1⟩) | (have hk0 : k = 0 := (by omega); have hnl : ¬ (97 ≤ lk (fun x9 => g0 (16 + r) x9) (g0 (6 + r) 1) ((sk (fun x9 => g0 (16 + r) x9) (g0 (6 + r) 1) pl + 1) + k) ∧ lk (fun x9 => g0 (16 + r) x9) (g0 (6 + r) 1) ((sk (fun x9 => g0 (16 + r) x9) (g0 (6 + r) 1) pl + 1) + k) ≤ 98) := (by first | (have hle := lk_e (B := (fun x9 => g0 (16 + r) x9)) (L := (g0 (6 + r) 1)) (p := (sk (fun x9 => g0 (16 + r) x9) (g0 (6 + r) 1) pl + 1) + k) (by omega); omega) | omega); rw [hk0, Int.add_zero] at hnl; have hz := it_0 (B := (fun x9 => g0 (16 + r) x9)) (L := (g0 (6 + r) 1)) (c := 116) (lo := 97) (hi := 98) (bs := 6) (cs := 1) (p := pl) (mx := 8) (D := Dr) hl13 (by omega) (by rw [← hI17.2.2.2.2, hk0, Int.add_zero]; exact ff_y (by omega) (decide_eq_true hnl)); exact ⟨bI_f (by rw [hz.2.1]; decide), by rw [hz.1, hz.2.2]; have H := hI17.1; rw [hk0, Int.add_zero] at H; exact H⟩))
        · skip
          refine v_iconst C dX2_readTurns_92 ?_
          refine v_goto (tgt := 97) C dX2_readTurns_93 (by decide) ?_
          exact v_ret_z C rfl (Or.inr rfl) dX2_readTurns_97 (by first | (have hnl : ¬ (97 ≤ lk (fun x9 => g0 (16 + r) x9) (g0 (6 + r) 1) ((sk (fun x9 => g0 (16 + r) x9) (g0 (6 + r) 1) pl + 1) + k) ∧ lk (fun x9 => g0 (16 + r) x9) (g0 (6 + r) 1) ((sk (fun x9 => g0 (16 + r) x9) (g0 (6 + r) 1) pl + 1) + k) ≤ 98) := (by first | (have hle := lk_e (B := (fun x9 => g0 (16 + r) x9)) (L := (g0 (6 + r) 1)) (p := (sk (fun x9 => g0 (16 + r) x9) (g0 (6 + r) 1) pl + 1) + k) (by omega); omega) | omega); have hz := it_y (B := (fun x9 => g0 (16 + r) x9)) (L := (g0 (6 + r) 1)) (c := 116) (lo := 97) (hi := 98) (bs := 6) (cs := 1) (p := pl) (mx := 8) (D := Dr) (k := k) hl13 (by omega) (by omega) (by rw [← hI17.2.2.2.2]; exact ff_y (by omega) (decide_eq_true hnl)); exact ⟨bI_t hz.2.1, by rw [hz.1, hz.2.2]; exact hI17.1⟩) | (have hk0 : k = 0 := (by omega); have hnl : ¬ (97 ≤ lk (fun x9 => g0 (16 + r) x9) (g0 (6 + r) 1) ((sk (fun x9 => g0 (16 + r) x9) (g0 (6 + r) 1) pl + 1) + k) ∧ lk (fun x9 => g0 (16 + r) x9) (g0 (6 + r) 1) ((sk (fun x9 => g0 (16 + r) x9) (g0 (6 + r) 1) pl + 1) + k) ≤ 98) := (by first | (have hle := lk_e (B := (fun x9 => g0 (16 + r) x9)) (L := (g0 (6 + r) 1)) (p := (sk (fun x9 => g0 (16 + r) x9) (g0 (6 + r) 1) pl + 1) + k) (by omega); omega) | omega); rw [hk0, Int.add_zero] at hnl; have hz := it_0 (B := (fun x9 => g0 (16 + r) x9)) (L := (g0 (6 + r) 1)) (c := 116) (lo := 97) (hi := 98) (bs := 6) (cs := 1) (p := pl) (mx := 8) (D := Dr) hl13 (by omega) (by rw [← hI17.2.2.2.2, hk0, Int.add_zero]; exact ff_y (by omega) (decide_eq_true hnl)); exact ⟨bI_f (by rw [hz.2.1]; decide), by rw [hz.1, hz.2.2]; have H := hI17.1; rw [hk0, Int.add_zero] at H; exact H⟩))
      · skip
        refine v_aload_n C 0 dX2_readTurns_45 rfl ?_
        refine v_getf C (by omega) (by omega) ct_reader rfl 0 (by decide) wf12 hinX2 rfl dX2_readTurns_46 ?_
        refine v_st (st' := [.ref (a (26 + 4))]) rfl ?_
        refine v_aload_n C 1 dX2_readTurns_49 rfl ?_
        refine v_getf C (by omega) (by omega) (ct_row (by omega) (by omega)) rfl 0 (by decide) wf48 hinX3 rfl dX2_readTurns_50 ?_
        refine v_aload_n C 0 dX2_readTurns_53 rfl ?_
        refine v_getf C (by omega) (by omega) ct_reader rfl 1 (by decide) wf21 hinX2 rfl dX2_readTurns_54 ?_
        refine v_st (st' := [.int (iI ((sk (fun x9 => g0 (16 + r) x9) (g0 (6 + r) 1) pl + 1) + k)), .ref (a (16 + r)), .ref (a (26 + 4))]) (by rw [hI17.1.p]; try rfl) ?_
        refine v_iaload C (by omega) (by omega) (ct_places (by omega) (by omega)) (by omega) (by omega) (by unfold rlen; split <;> decide) dX2_readTurns_57 ?_
        refine v_st (st' := [.int (iI (lk (fun x9 => g0 (16 + r) x9) (g0 (6 + r) 1) ((sk (fun x9 => g0 (16 + r) x9) (g0 (6 + r) 1) pl + 1) + k))), .ref (a (26 + 4))]) (by rw [hI17.1.B hr.1 hr.2, lk_i (by omega)]; try rfl) ?_
        refine v_cS_i C (As := [.int (iI (lk (fun x9 => g0 (16 + r) x9) (g0 (6 + r) 1) ((sk (fun x9 => g0 (16 + r) x9) (g0 (6 + r) 1) pl + 1) + k)))]) (rest := [.ref (a (26 + 4))]) (c_X2_farmOfLetter l D yc t1 t2 A (cw a yc) h (lk (fun x9 => g0 (16 + r) x9) (g0 (6 + r) 1) ((sk (fun x9 => g0 (16 + r) x9) (g0 (6 + r) 1) pl + 1) + k)) (by omega)) (va_cwS 1 C.hts gX2_readTurns_X2_farmOfLetter rfl rfl rfl (by decide +kernel) ⟨by decide, by decide⟩) rfl rfl (Nat.le_of_ble_eq_true rfl) dX2_readTurns_58 ?_
        intro r9 g9 h9
        rw [h9.1, h9.2]
        clear h9 g9 r9
        try dsimp only
        refine v_st (st' := [.int (iI (lk (fun x9 => g0 (16 + r) x9) (g0 (6 + r) 1) ((sk (fun x9 => g0 (16 + r) x9) (g0 (6 + r) 1) pl + 1) + k) - 97)), .ref (a (26 + 4))]) (by rw [hfl.2 (by omega) (by omega)]) ?_
        refine v_cV_i C (As := [.int (iI (lk (fun x9 => g0 (16 + r) x9) (g0 (6 + r) 1) ((sk (fun x9 => g0 (16 + r) x9) (g0 (6 + r) 1) pl + 1) + k) - 97))]) (rest := []) (c_X1_addTurn l D yc t1 t2 a A h 4 (lk (fun x9 => g0 (16 + r) x9) (g0 (6 + r) 1) ((sk (fun x9 => g0 (16 + r) x9) (g0 (6 + r) 1) pl + 1) + k) - 97) (by omega) (by rw [hI17.1.tc, hck]; omega) (by omega)) (cwV 1 C.hts gX2_readTurns_X1_addTurn rfl rfl rfl (by decide +kernel) ⟨by decide, by decide⟩) (fun H hP => va_recv C.hK hP (ci := 1) (q0 := (26 + 4 : Int).toNat) rfl (wo_is (by omega) (by omega) (ct_farm (by omega) (by omega)))) rfl rfl (Nat.le_of_ble_eq_true rfl) dX2_readTurns_61 ?_
        intro r9 g9 h9
        rw [h9.1, h9.2]
        clear h9 g9 r9
        try dsimp only
        refine v_ifb_ne (tgt := 69) C dX2_readTurns_64 (by decide) (fun c64 => ?_) (fun c64 => ?_)
        · skip
          refine v_g (g' := (mu (mu h (26 + 4) 5 (k + 1)) (31 + 4) k (lk (fun x9 => g0 (16 + r) x9) (g0 (6 + r) 1) ((sk (fun x9 => g0 (16 + r) x9) (g0 (6 + r) 1) pl + 1) + k) - 97))) (by rw [if_pos c64, hI17.1.tc, hck]) ?_
          refine v_aload_n C 0 dX2_readTurns_69 rfl ?_
          refine v_dup C dX2_readTurns_70 rfl ?_
          refine v_getf C (by omega) (by omega) ct_reader rfl 1 (by decide) wf21 hinX2 rfl dX2_readTurns_71 ?_
          refine v_st (st' := [.int (iI ((sk (fun x9 => g0 (16 + r) x9) (g0 (6 + r) 1) pl + 1) + k)), .ref (a (4))]) (by rw [mu_ne (by decide), mu_ne (by decide), hI17.1.p]) ?_
          refine v_iconst C dX2_readTurns_74 ?_
          refine v_iadd C dX2_readTurns_75 ?_
          refine v_puti C (cta_L a yc) (by omega) (by omega) ct_reader rfl 1 (by decide) wf21 hinX2 tyX2 tyX2_ok nmX2 rfl (by decide +kernel) (by simp) cs_reader_1 dX2_readTurns_76 ?_
          refine v_g (g' := (mu (mu (mu h (26 + 4) 5 (k + 1)) (31 + 4) k (lk (fun x9 => g0 (16 + r) x9) (g0 (6 + r) 1) ((sk (fun x9 => g0 (16 + r) x9) (g0 (6 + r) 1) pl + 1) + k) - 97)) (4) (1) (((sk (fun x9 => g0 (16 + r) x9) (g0 (6 + r) 1) pl + 1) + k) + 1))) rfl ?_
          refine v_goto (tgt := 17) C dX2_readTurns_79 (by decide) ?_
          exact ih17 ((mu (mu (mu h (26 + 4) 5 (k + 1)) (31 + 4) k (lk (fun x9 => g0 (16 + r) x9) (g0 (6 + r) 1) ((sk (fun x9 => g0 (16 + r) x9) (g0 (6 + r) 1) pl + 1) + k) - 97)) (4) (1) (((sk (fun x9 => g0 (16 + r) x9) (g0 (6 + r) 1) pl + 1) + k) + 1))) (k + 1) ⟨by rw [rD_s _ _ _ _ _ _ _ (by omega), ← Int.add_assoc]; exact CR_p (CR_t hI17.1 hck (by omega) _) _, by omega, by omega, by omega, by rw [← hI17.2.2.2.2, ← Int.add_assoc]; exact (ff_n (by omega) (fun h => absurd (of_decide_eq_true h) (by omega))).symm⟩ (by omega)
        · skip
          refine v_g (g' := h) (by rw [if_neg c64]) ?_
          refine v_iconst C dX2_readTurns_67 ?_
          exact v_ret_z C rfl (Or.inl rfl) dX2_readTurns_68 (by have hk8 : k = 8 := (by omega); have hz := it_m (B := (fun x9 => g0 (16 + r) x9)) (L := (g0 (6 + r) 1)) (c := 116) (lo := 97) (hi := 98) (bs := 6) (cs := 1) (p := pl) (mx := 8) (D := Dr) hl13 (by rw [← hI17.2.2.2.2, ff_n (by omega) (fun h => absurd (of_decide_eq_true h) (by omega)), ff_e (by omega)]); exact ⟨bI_f (by rw [hz.2.1]; decide), by rw [hz.1, hz.2.2]; have H := hI17.1; rw [hk8] at H; exact H⟩)
  · skip
    refine v_g (g' := h5) (by rw [if_neg c12]) ?_
    refine v_iconst C dX2_readTurns_15 ?_
    exact v_ret_z C rfl (Or.inl rfl) dX2_readTurns_16 (by have hz := it_n (B := (fun x9 => g0 (16 + r) x9)) (L := (g0 (6 + r) 1)) (c := 116) (lo := 97) (hi := 98) (bs := 6) (cs := 1) (p := pl) (mx := 8) (D := Dr) (fun z => c12 (e6.mpr z)); exact ⟨bI_f (by rw [hz.2.1]; decide), by rw [hz.1, hz.2.2]; exact H5⟩)

set_option maxRecDepth 100000 in
set_option maxHeartbeats 4000000 in
theorem c_X2_readMilks (l : Launch) (D : va_G) (yc : Nat → ClassId) (t1 t2 : Nat) (a : Int → Nat) (A : Nat → Prop) (g : Mm) (r : Int) (g0 : Mm) (Dr : Int → Int) (pl : Int) (hr : 6 ≤ r ∧ r < 10) (HR : CR g0 g Dr pl) (hL : -1 ≤ g0 (6 + r) 1 ∧ g0 (6 + r) 1 ≤ 60) (HB : ∀ j, -128 ≤ g0 (16 + r) j ∧ g0 (16 + r) j ≤ 127) (hp : 0 ≤ pl ∧ pl ≤ 60) (hD : Dr 2 = 0) : Ci l yX2_readMilks wsX2_readMilks { frames := 3, cells := 0, slots := 0, locals := 64 } D yc t1 t2 A (cw a yc) [.ref (a (4)), .ref (a (6 + r))] g (fun r9 g' => r9 = bI (iW (fun x9 => g0 (16 + r) x9) (g0 (6 + r) 1) 109 48 57 6 pl = 1) ∧ CR g0 g' (iD (fun x9 => g0 (16 + r) x9) (g0 (6 + r) 1) 109 48 57 14 2 6 pl Dr) (iP (fun x9 => g0 (16 + r) x9) (g0 (6 + r) 1) 109 48 57 6 pl)) := by
  refine start_i (cc := cX2_readMilks) (nL := 2) (ret := (some .boolean)) (own := RX2) (by decide +kernel) rfl rfl (Nat.le_of_ble_eq_true rfl) ?_
  intro p e s m9 below meth c9 C
  have wf21 : Cond.fieldLink RX2 21 (TX2 1).1 (TX2 1).2.1 (TX2 1).2.2.1 ∈ wsX2_readMilks := by decide +kernel
  have hinX2 : ∀ w ∈ u_ws RX2 TX2 2, w ∈ wsX2_readMilks := by decide +kernel
  have wf43 : Cond.fieldLink RX2 43 (TX3 1).1 (TX3 1).2.1 (TX3 1).2.2.1 ∈ wsX2_readMilks := by decide +kernel
  have hinX3 : ∀ w ∈ u_ws RX3 TX3 2, w ∈ wsX2_readMilks := by decide +kernel
  have wf12 : Cond.fieldLink RX2 12 (TX2 0).1 (TX2 0).2.1 (TX2 0).2.2.1 ∈ wsX2_readMilks := by decide +kernel
  have wf70 : Cond.fieldLink RX2 70 (TX1 6).1 (TX1 6).2.1 (TX1 6).2.2.1 ∈ wsX2_readMilks := by decide +kernel
  have hinX1 : ∀ w ∈ u_ws RX1 TX1 11, w ∈ wsX2_readMilks := by decide +kernel
  have wf48 : Cond.fieldLink RX2 48 (TX3 0).1 (TX3 0).2.1 (TX3 0).2.2.1 ∈ wsX2_readMilks := by decide +kernel
  have wstX4_outside : Cond.static yX4_outside ∈ wsX2_readMilks := by decide +kernel
  have winiX4_outside : Cond.initialized yX4_outside.cls ∈ wsX2_readMilks := by decide +kernel
  have hrl : ((rlen r : Nat) : Int) = 60 := by unfold rlen; rw [if_neg (by omega)]; rfl
  have hsr := sk_r (fun x9 => g0 (16 + r) x9) (L := (g0 (6 + r) 1)) (p := pl) hL.2 hp.2
  refine v_lv (lv' := [(0, .ref (a (4))), (1, .ref (a (6 + r)))]) rfl ?_
  refine v_aload_n C 0 dX2_readMilks_0 rfl ?_
  refine v_aload_n C 1 dX2_readMilks_1 rfl ?_
  refine v_cV_v C (As := [.ref (a (6 + r))]) (rest := []) (c_X2_skipBlanks l D yc t1 t2 a A g r (by omega) (by rw [HR.L hr.1 hr.2]; exact hL) (fun j => by rw [HR.B hr.1 hr.2]; exact HB j) (by rw [HR.p]; omega)) (cwV 1 C.hts gX2_readMilks_X2_skipBlanks rfl rfl rfl (by decide +kernel) ⟨by decide, by decide⟩) (fun H hP => va_recv C.hK hP (ci := 2) (q0 := (4 : Int).toNat) rfl (wo_is (by omega) (by omega) ct_reader)) rfl rfl (Nat.le_of_ble_eq_true rfl) dX2_readMilks_2 ?_
  intro g9 h9
  rw [h9]
  clear h9 g9
  try dsimp only
  obtain ⟨h5, hm5, H5⟩ : ∃ h, mu g 4 1 (sk (fun x9 => g (16 + r) x9) (g (6 + r) 1) (g 4 1)) = h ∧ CR g0 h Dr (sk (fun x9 => g0 (16 + r) x9) (g0 (6 + r) 1) pl) := ⟨_, rfl, by rw [HR.B hr.1 hr.2, HR.L hr.1 hr.2, HR.p]; exact CR_p HR _⟩
  refine v_g (g' := h5) hm5 ?_
  refine v_aload_n C 0 dX2_readMilks_5 rfl ?_
  refine v_aload_n C 1 dX2_readMilks_6 rfl ?_
  refine v_bipush C dX2_readMilks_7 (by decide) ?_
  refine v_cV_i C (As := [.ref (a (6 + r)), .int (iI (109))]) (rest := []) (c_X2_take l D yc t1 t2 a A h5 r 109 (by omega) (by rw [H5.L hr.1 hr.2]; exact hL) (fun j => by rw [H5.B hr.1 hr.2]; exact HB j) (by rw [H5.p]; omega) (by omega)) (cwV 2 C.hts gX2_readMilks_X2_take rfl rfl rfl (by decide +kernel) ⟨by decide, by decide⟩) (fun H hP => va_recv C.hK hP (ci := 2) (q0 := (4 : Int).toNat) rfl (wo_is (by omega) (by omega) ct_reader)) rfl rfl (Nat.le_of_ble_eq_true rfl) dX2_readMilks_9 ?_
  intro r9 g9 h9
  rw [h9.1, h9.2]
  clear h9 g9 r9
  try dsimp only
  have e5 : sg (fun x9 => h5 (16 + r) x9) (h5 (6 + r) 1) (h5 4 1) = sg (fun x9 => g0 (16 + r) x9) (g0 (6 + r) 1) (sk (fun x9 => g0 (16 + r) x9) (g0 (6 + r) 1) pl) := (by rw [H5.B hr.1 hr.2, H5.L hr.1 hr.2, H5.p])
  have e6 : (sg (fun x9 => h5 (16 + r) x9) (h5 (6 + r) 1) (h5 4 1) = 109) ↔ (lk (fun x9 => g0 (16 + r) x9) (g0 (6 + r) 1) (sk (fun x9 => g0 (16 + r) x9) (g0 (6 + r) 1) pl) = 109) := (by rw [e5]; exact sg_lk (by decide) (by decide))
  refine v_ifb_ne (tgt := 17) C dX2_readMilks_12 (by decide) (fun c12 => ?_) (fun c12 => ?_)
  · skip
    refine v_g (g' := (mu h5 4 1 (h5 4 1 + 1))) (by rw [if_pos c12]) ?_
    refine v_loop2 (fun (h : Mm) (k : Int) => (6 - k).toNat) (fun (h : Mm) (k : Int) => CR g0 h (rD (fun x9 => g0 (16 + r) x9) (g0 (6 + r) 1) 48 14 2 (sk (fun x9 => g0 (16 + r) x9) (g0 (6 + r) 1) pl + 1) Dr k.toNat) ((sk (fun x9 => g0 (16 + r) x9) (g0 (6 + r) 1) pl + 1) + k) ∧ 0 ≤ k ∧ k ≤ 6 ∧ (sk (fun x9 => g0 (16 + r) x9) (g0 (6 + r) 1) pl + 1) + k ≤ 60 ∧ ff (ntP (fun x9 => g0 (16 + r) x9) (g0 (6 + r) 1) 48 57) ((sk (fun x9 => g0 (16 + r) x9) (g0 (6 + r) 1) pl + 1) + 7 - ((sk (fun x9 => g0 (16 + r) x9) (g0 (6 + r) 1) pl + 1) + k)).toNat ((sk (fun x9 => g0 (16 + r) x9) (g0 (6 + r) 1) pl + 1) + k) = rX (fun x9 => g0 (16 + r) x9) (g0 (6 + r) 1) 48 57 6 (sk (fun x9 => g0 (16 + r) x9) (g0 (6 + r) 1) pl + 1)) (fun (h : Mm) (k : Int) => [(0, .ref (a (4))), (1, .ref (a (6 + r)))]) (fun (h : Mm) (k : Int) => h) ?_ (mu h5 4 1 (h5 4 1 + 1)) 0 ⟨by rw [H5.p, Int.add_zero]; exact CR_p H5 _, by omega, by omega, by have := lk_32 (B := (fun x9 => g0 (16 + r) x9)) (L := (g0 (6 + r) 1)) (p := sk (fun x9 => g0 (16 + r) x9) (g0 (6 + r) 1) pl) (by have := e6.mp c12; omega); omega, by unfold rX; rw [show ((sk (fun x9 => g0 (16 + r) x9) (g0 (6 + r) 1) pl + 1) + 7 - ((sk (fun x9 => g0 (16 + r) x9) (g0 (6 + r) 1) pl + 1) + 0)).toNat = 6+1 by omega, Int.add_zero]⟩
    intro h k hI17 ih17
    try dsimp only at ih17 ⊢
    have hlb := lk_bd (B := (fun x9 => g0 (16 + r) x9)) HB (g0 (6 + r) 1) ((sk (fun x9 => g0 (16 + r) x9) (g0 (6 + r) 1) pl + 1) + k)
    have hck : rD (fun x9 => g0 (16 + r) x9) (g0 (6 + r) 1) 48 14 2 (sk (fun x9 => g0 (16 + r) x9) (g0 (6 + r) 1) pl + 1) Dr k.toNat 2 = k := rD_0 _ _ _ _ _ _ _ hD hI17.2.1
    have hfl := fl_r (lk (fun x9 => g0 (16 + r) x9) (g0 (6 + r) 1) ((sk (fun x9 => g0 (16 + r) x9) (g0 (6 + r) 1) pl + 1) + k))
    have hcc : h (26 + 4) 6 = k := (by rw [hI17.1.mc, hck])
    have hl13 := e6.mp c12
    refine v_aload_n C 0 dX2_readMilks_17 rfl ?_
    refine v_getf C (by omega) (by omega) ct_reader rfl 1 (by decide) wf21 hinX2 rfl dX2_readMilks_18 ?_
    refine v_st (st' := [.int (iI ((sk (fun x9 => g0 (16 + r) x9) (g0 (6 + r) 1) pl + 1) + k))]) (by rw [hI17.1.p]; try rfl) ?_
    refine v_aload_n C 1 dX2_readMilks_21 rfl ?_
    refine v_getf C (by omega) (by omega) (ct_row (by omega) (by omega)) rfl 1 (by decide) wf43 hinX3 rfl dX2_readMilks_22 ?_
    refine v_st (st' := [.int (iI (g0 (6 + r) 1)), .int (iI ((sk (fun x9 => g0 (16 + r) x9) (g0 (6 + r) 1) pl + 1) + k))]) (by rw [hI17.1.L hr.1 hr.2]; try rfl) ?_
    refine v_icmp_ge (tgt := 84) C dX2_readMilks_25 (by decide) (by omega) (by omega) (fun c25 => ?_) (fun c25 => ?_)
    · skip
      refine v_aload_n C 0 dX2_readMilks_84 rfl ?_
      refine v_getf C (by omega) (by omega) ct_reader rfl 0 (by decide) wf12 hinX2 rfl dX2_readMilks_85 ?_
      refine v_st (st' := [.ref (a (26 + 4))]) rfl ?_
      refine v_getf C (by omega) (by omega) (ct_farm (by omega) (by omega)) rfl 6 (by decide) wf70 hinX1 rfl dX2_readMilks_88 ?_
      refine v_st (st' := [.int (iI (k))]) (by rw [hI17.1.mc, hck]) ?_
      refine v_if_le (tgt := 98) C dX2_readMilks_91 (by decide) (by omega) (fun c91 => ?_) (fun c91 => ?_)
      · skip
        refine v_iconst C dX2_readMilks_98 ?_
        exact v_ret_z C rfl (Or.inl rfl) dX2_readMilks_99 (by first | (have hnl : ¬ (48 ≤ lk (fun x9 => g0 (16 + r) x9) (g0 (6 + r) 1) ((sk (fun x9 => g0 (16 + r) x9) (g0 (6 + r) 1) pl + 1) + k) ∧ lk (fun x9 => g0 (16 + r) x9) (g0 (6 + r) 1) ((sk (fun x9 => g0 (16 + r) x9) (g0 (6 + r) 1) pl + 1) + k) ≤ 57) := (by first | (have hle := lk_e (B := (fun x9 => g0 (16 + r) x9)) (L := (g0 (6 + r) 1)) (p := (sk (fun x9 => g0 (16 + r) x9) (g0 (6 + r) 1) pl + 1) + k) (by omega); omega) | omega); have hz := it_y (B := (fun x9 => g0 (16 + r) x9)) (L := (g0 (6 + r) 1)) (c := 109) (lo := 48) (hi := 57) (bs := 14) (cs := 2) (p := pl) (mx := 6) (D := Dr) (k := k) hl13 (by omega) (by omega) (by rw [← hI17.2.2.2.2]; exact ff_y (by omega) (decide_eq_true hnl)); exact ⟨bI_t hz.2.1, by rw [hz.1, hz.2.2]; exact hI17.1⟩) | (have hk0 : k = 0 := (by omega); have hnl : ¬ (48 ≤ lk (fun x9 => g0 (16 + r) x9) (g0 (6 + r) 1) ((sk (fun x9 => g0 (16 + r) x9) (g0 (6 + r) 1) pl + 1) + k) ∧ lk (fun x9 => g0 (16 + r) x9) (g0 (6 + r) 1) ((sk (fun x9 => g0 (16 + r) x9) (g0 (6 + r) 1) pl + 1) + k) ≤ 57) := (by first | (have hle := lk_e (B := (fun x9 => g0 (16 + r) x9)) (L := (g0 (6 + r) 1)) (p := (sk (fun x9 => g0 (16 + r) x9) (g0 (6 + r) 1) pl + 1) + k) (by omega); omega) | omega); rw [hk0, Int.add_zero] at hnl; have hz := it_0 (B := (fun x9 => g0 (16 + r) x9)) (L := (g0 (6 + r) 1)) (c := 109) (lo := 48) (hi := 57) (bs := 14) (cs := 2) (p := pl) (mx := 6) (D := Dr) hl13 (by omega) (by rw [← hI17.2.2.2.2, hk0, Int.add_zero]; exact ff_y (by omega) (decide_eq_true hnl)); exact ⟨bI_f (by rw [hz.2.1]; decide), by rw [hz.1, hz.2.2]; have H := hI17.1; rw [hk0, Int.add_zero] at H; exact H⟩))
      · skip
        refine v_iconst C dX2_readMilks_94 ?_
        refine v_goto (tgt := 99) C dX2_readMilks_95 (by decide) ?_
        exact v_ret_z C rfl (Or.inr rfl) dX2_readMilks_99 (by first | (have hnl : ¬ (48 ≤ lk (fun x9 => g0 (16 + r) x9) (g0 (6 + r) 1) ((sk (fun x9 => g0 (16 + r) x9) (g0 (6 + r) 1) pl + 1) + k) ∧ lk (fun x9 => g0 (16 + r) x9) (g0 (6 + r) 1) ((sk (fun x9 => g0 (16 + r) x9) (g0 (6 + r) 1) pl + 1) + k) ≤ 57) := (by first | (have hle := lk_e (B := (fun x9 => g0 (16 + r) x9)) (L := (g0 (6 + r) 1)) (p := (sk (fun x9 => g0 (16 + r) x9) (g0 (6 + r) 1) pl + 1) + k) (by omega); omega) | omega); have hz := it_y (B := (fun x9 => g0 (16 + r) x9)) (L := (g0 (6 + r) 1)) (c := 109) (lo := 48) (hi := 57) (bs := 14) (cs := 2) (p := pl) (mx := 6) (D := Dr) (k := k) hl13 (by omega) (by omega) (by rw [← hI17.2.2.2.2]; exact ff_y (by omega) (decide_eq_true hnl)); exact ⟨bI_t hz.2.1, by rw [hz.1, hz.2.2]; exact hI17.1⟩) | (have hk0 : k = 0 := (by omega); have hnl : ¬ (48 ≤ lk (fun x9 => g0 (16 + r) x9) (g0 (6 + r) 1) ((sk (fun x9 => g0 (16 + r) x9) (g0 (6 + r) 1) pl + 1) + k) ∧ lk (fun x9 => g0 (16 + r) x9) (g0 (6 + r) 1) ((sk (fun x9 => g0 (16 + r) x9) (g0 (6 + r) 1) pl + 1) + k) ≤ 57) := (by first | (have hle := lk_e (B := (fun x9 => g0 (16 + r) x9)) (L := (g0 (6 + r) 1)) (p := (sk (fun x9 => g0 (16 + r) x9) (g0 (6 + r) 1) pl + 1) + k) (by omega); omega) | omega); rw [hk0, Int.add_zero] at hnl; have hz := it_0 (B := (fun x9 => g0 (16 + r) x9)) (L := (g0 (6 + r) 1)) (c := 109) (lo := 48) (hi := 57) (bs := 14) (cs := 2) (p := pl) (mx := 6) (D := Dr) hl13 (by omega) (by rw [← hI17.2.2.2.2, hk0, Int.add_zero]; exact ff_y (by omega) (decide_eq_true hnl)); exact ⟨bI_f (by rw [hz.2.1]; decide), by rw [hz.1, hz.2.2]; have H := hI17.1; rw [hk0, Int.add_zero] at H; exact H⟩))
    · skip
      refine v_aload_n C 1 dX2_readMilks_28 rfl ?_
      refine v_getf C (by omega) (by omega) (ct_row (by omega) (by omega)) rfl 0 (by decide) wf48 hinX3 rfl dX2_readMilks_29 ?_
      refine v_aload_n C 0 dX2_readMilks_32 rfl ?_
      refine v_getf C (by omega) (by omega) ct_reader rfl 1 (by decide) wf21 hinX2 rfl dX2_readMilks_33 ?_
      refine v_st (st' := [.int (iI ((sk (fun x9 => g0 (16 + r) x9) (g0 (6 + r) 1) pl + 1) + k)), .ref (a (16 + r))]) (by rw [hI17.1.p]; try rfl) ?_
      refine v_iaload C (by omega) (by omega) (ct_places (by omega) (by omega)) (by omega) (by omega) (by unfold rlen; split <;> decide) dX2_readMilks_36 ?_
      refine v_st (st' := [.int (iI (lk (fun x9 => g0 (16 + r) x9) (g0 (6 + r) 1) ((sk (fun x9 => g0 (16 + r) x9) (g0 (6 + r) 1) pl + 1) + k)))]) (by rw [hI17.1.B hr.1 hr.2, lk_i (by omega)]; try rfl) ?_
      refine v_bipush C dX2_readMilks_37 (by decide) ?_
      refine v_bipush C dX2_readMilks_39 (by decide) ?_
      refine v_cN_i C (As := [.int (iI (lk (fun x9 => g0 (16 + r) x9) (g0 (6 + r) 1) ((sk (fun x9 => g0 (16 + r) x9) (g0 (6 + r) 1) pl + 1) + k))), .int (iI (48)), .int (iI (57))]) (rest := []) (c_X4_outside l D yc t1 t2 A (cw a yc) h (lk (fun x9 => g0 (16 + r) x9) (g0 (6 + r) 1) ((sk (fun x9 => g0 (16 + r) x9) (g0 (6 + r) 1) pl + 1) + k)) 48 57 (by omega) (by omega) (by omega)) ⟨va_cnB 3 C.hts gX2_readMilks_X4_outside_n63 rfl rfl rfl C.hF.2.2.2.1.2 (C.hts _ winiX4_outside) (by decide +kernel) ⟨by decide, by decide⟩, C.hts _ wstX4_outside, trivial⟩ rfl rfl (Nat.le_of_ble_eq_true rfl) dX2_readMilks_41 ?_
      intro r9 g9 h9
      rw [h9.1, h9.2]
      clear h9 g9 r9
      try dsimp only
      refine v_ifb_ne (tgt := 84) C dX2_readMilks_44 (by decide) (fun c44 => ?_) (fun c44 => ?_)
      · skip
        refine v_aload_n C 0 dX2_readMilks_84 rfl ?_
        refine v_getf C (by omega) (by omega) ct_reader rfl 0 (by decide) wf12 hinX2 rfl dX2_readMilks_85 ?_
        refine v_st (st' := [.ref (a (26 + 4))]) rfl ?_
        refine v_getf C (by omega) (by omega) (ct_farm (by omega) (by omega)) rfl 6 (by decide) wf70 hinX1 rfl dX2_readMilks_88 ?_
        refine v_st (st' := [.int (iI (k))]) (by rw [hI17.1.mc, hck]) ?_
        refine v_if_le (tgt := 98) C dX2_readMilks_91 (by decide) (by omega) (fun c91 => ?_) (fun c91 => ?_)
        · skip
          refine v_iconst C dX2_readMilks_98 ?_
          exact v_ret_z C rfl (Or.inl rfl) dX2_readMilks_99 (by first | (have hnl : ¬ (48 ≤ lk (fun x9 => g0 (16 + r) x9) (g0 (6 + r) 1) ((sk (fun x9 => g0 (16 + r) x9) (g0 (6 + r) 1) pl + 1) + k) ∧ lk (fun x9 => g0 (16 + r) x9) (g0 (6 + r) 1) ((sk (fun x9 => g0 (16 + r) x9) (g0 (6 + r) 1) pl + 1) + k) ≤ 57) := (by first | (have hle := lk_e (B := (fun x9 => g0 (16 + r) x9)) (L := (g0 (6 + r) 1)) (p := (sk (fun x9 => g0 (16 + r) x9) (g0 (6 + r) 1) pl + 1) + k) (by omega); omega) | omega); have hz := it_y (B := (fun x9 => g0 (16 + r) x9)) (L := (g0 (6 + r) 1)) (c := 109) (lo := 48) (hi := 57) (bs := 14) (cs := 2) (p := pl) (mx := 6) (D := Dr) (k := k) hl13 (by omega) (by omega) (by rw [← hI17.2.2.2.2]; exact ff_y (by omega) (decide_eq_true hnl)); exact ⟨bI_t hz.2.1, by rw [hz.1, hz.2.2]; exact hI17.1⟩) | (have hk0 : k = 0 := (by omega); have hnl : ¬ (48 ≤ lk (fun x9 => g0 (16 + r) x9) (g0 (6 + r) 1) ((sk (fun x9 => g0 (16 + r) x9) (g0 (6 + r) 1) pl + 1) + k) ∧ lk (fun x9 => g0 (16 + r) x9) (g0 (6 + r) 1) ((sk (fun x9 => g0 (16 + r) x9) (g0 (6 + r) 1) pl + 1) + k) ≤ 57) := (by first | (have hle := lk_e (B := (fun x9 => g0 (16 + r) x9)) (L := (g0 (6 + r) 1)) (p := (sk (fun x9 => g0 (16 + r) x9) (g0 (6 + r) 1) pl + 1) + k) (by omega); omega) | omega); rw [hk0, Int.add_zero] at hnl; have hz := it_0 (B := (fun x9 => g0 (16 + r) x9)) (L := (g0 (6 + r) 1)) (c := 109) (lo := 48) (hi := 57) (bs := 14) (cs := 2) (p := pl) (mx := 6) (D := Dr) hl13 (by omega) (by rw [← hI17.2.2.2.2, hk0, Int.add_zero]; exact ff_y (by omega) (decide_eq_true hnl)); exact ⟨bI_f (by rw [hz.2.1]; decide), by rw [hz.1, hz.2.2]; have H := hI17.1; rw [hk0, Int.add_zero] at H; exact H⟩))
        · skip
          refine v_iconst C dX2_readMilks_94 ?_
          refine v_goto (tgt := 99) C dX2_readMilks_95 (by decide) ?_
          exact v_ret_z C rfl (Or.inr rfl) dX2_readMilks_99 (by first | (have hnl : ¬ (48 ≤ lk (fun x9 => g0 (16 + r) x9) (g0 (6 + r) 1) ((sk (fun x9 => g0 (16 + r) x9) (g0 (6 + r) 1) pl + 1) + k) ∧ lk (fun x9 => g0 (16 + r) x9) (g0 (6 + r) 1) ((sk (fun x9 => g0 (16 + r) x9) (g0 (6 + r) 1) pl + 1) + k) ≤ 57) := (by first | (have hle := lk_e (B := (fun x9 => g0 (16 + r) x9)) (L := (g0 (6 + r) 1)) (p := (sk (fun x9 => g0 (16 + r) x9) (g0 (6 + r) 1) pl + 1) + k) (by omega); omega) | omega); have hz := it_y (B := (fun x9 => g0 (16 + r) x9)) (L := (g0 (6 + r) 1)) (c := 109) (lo := 48) (hi := 57) (bs := 14) (cs := 2) (p := pl) (mx := 6) (D := Dr) (k := k) hl13 (by omega) (by omega) (by rw [← hI17.2.2.2.2]; exact ff_y (by omega) (decide_eq_true hnl)); exact ⟨bI_t hz.2.1, by rw [hz.1, hz.2.2]; exact hI17.1⟩) | (have hk0 : k = 0 := (by omega); have hnl : ¬ (48 ≤ lk (fun x9 => g0 (16 + r) x9) (g0 (6 + r) 1) ((sk (fun x9 => g0 (16 + r) x9) (g0 (6 + r) 1) pl + 1) + k) ∧ lk (fun x9 => g0 (16 + r) x9) (g0 (6 + r) 1) ((sk (fun x9 => g0 (16 + r) x9) (g0 (6 + r) 1) pl + 1) + k) ≤ 57) := (by first | (have hle := lk_e (B := (fun x9 => g0 (16 + r) x9)) (L := (g0 (6 + r) 1)) (p := (sk (fun x9 => g0 (16 + r) x9) (g0 (6 + r) 1) pl + 1) + k) (by omega); omega) | omega); rw [hk0, Int.add_zero] at hnl; have hz := it_0 (B := (fun x9 => g0 (16 + r) x9)) (L := (g0 (6 + r) 1)) (c := 109) (lo := 48) (hi := 57) (bs := 14) (cs := 2) (p := pl) (mx := 6) (D := Dr) hl13 (by omega) (by rw [← hI17.2.2.2.2, hk0, Int.add_zero]; exact ff_y (by omega) (decide_eq_true hnl)); exact ⟨bI_f (by rw [hz.2.1]; decide), by rw [hz.1, hz.2.2]; have H := hI17.1; rw [hk0, Int.add_zero] at H; exact H⟩))
      · skip
        refine v_aload_n C 0 dX2_readMilks_47 rfl ?_
        refine v_getf C (by omega) (by omega) ct_reader rfl 0 (by decide) wf12 hinX2 rfl dX2_readMilks_48 ?_
        refine v_st (st' := [.ref (a (26 + 4))]) rfl ?_
        refine v_aload_n C 1 dX2_readMilks_51 rfl ?_
        refine v_getf C (by omega) (by omega) (ct_row (by omega) (by omega)) rfl 0 (by decide) wf48 hinX3 rfl dX2_readMilks_52 ?_
        refine v_aload_n C 0 dX2_readMilks_55 rfl ?_
        refine v_getf C (by omega) (by omega) ct_reader rfl 1 (by decide) wf21 hinX2 rfl dX2_readMilks_56 ?_
        refine v_st (st' := [.int (iI ((sk (fun x9 => g0 (16 + r) x9) (g0 (6 + r) 1) pl + 1) + k)), .ref (a (16 + r)), .ref (a (26 + 4))]) (by rw [hI17.1.p]; try rfl) ?_
        refine v_iaload C (by omega) (by omega) (ct_places (by omega) (by omega)) (by omega) (by omega) (by unfold rlen; split <;> decide) dX2_readMilks_59 ?_
        refine v_st (st' := [.int (iI (lk (fun x9 => g0 (16 + r) x9) (g0 (6 + r) 1) ((sk (fun x9 => g0 (16 + r) x9) (g0 (6 + r) 1) pl + 1) + k))), .ref (a (26 + 4))]) (by rw [hI17.1.B hr.1 hr.2, lk_i (by omega)]; try rfl) ?_
        refine v_bipush C dX2_readMilks_60 (by decide) ?_
        refine v_isub C dX2_readMilks_62 ?_
        refine v_cV_i C (As := [.int (iI ((lk (fun x9 => g0 (16 + r) x9) (g0 (6 + r) 1) ((sk (fun x9 => g0 (16 + r) x9) (g0 (6 + r) 1) pl + 1) + k)) - 48))]) (rest := []) (c_X1_addMilk l D yc t1 t2 a A h 4 ((lk (fun x9 => g0 (16 + r) x9) (g0 (6 + r) 1) ((sk (fun x9 => g0 (16 + r) x9) (g0 (6 + r) 1) pl + 1) + k)) - 48) (by omega) (by rw [hI17.1.mc, hck]; omega) (by omega)) (cwV 1 C.hts gX2_readMilks_X1_addMilk rfl rfl rfl (by decide +kernel) ⟨by decide, by decide⟩) (fun H hP => va_recv C.hK hP (ci := 1) (q0 := (26 + 4 : Int).toNat) rfl (wo_is (by omega) (by omega) (ct_farm (by omega) (by omega)))) rfl rfl (Nat.le_of_ble_eq_true rfl) dX2_readMilks_63 ?_
        intro r9 g9 h9
        rw [h9.1, h9.2]
        clear h9 g9 r9
        try dsimp only
        refine v_ifb_ne (tgt := 71) C dX2_readMilks_66 (by decide) (fun c66 => ?_) (fun c66 => ?_)
        · skip
          refine v_g (g' := (mu (mu h (26 + 4) 6 (k + 1)) (36 + 4) k (lk (fun x9 => g0 (16 + r) x9) (g0 (6 + r) 1) ((sk (fun x9 => g0 (16 + r) x9) (g0 (6 + r) 1) pl + 1) + k) - 48))) (by rw [if_pos c66, hI17.1.mc, hck]) ?_
          refine v_aload_n C 0 dX2_readMilks_71 rfl ?_
          refine v_dup C dX2_readMilks_72 rfl ?_
          refine v_getf C (by omega) (by omega) ct_reader rfl 1 (by decide) wf21 hinX2 rfl dX2_readMilks_73 ?_
          refine v_st (st' := [.int (iI ((sk (fun x9 => g0 (16 + r) x9) (g0 (6 + r) 1) pl + 1) + k)), .ref (a (4))]) (by rw [mu_ne (by decide), mu_ne (by decide), hI17.1.p]) ?_
          refine v_iconst C dX2_readMilks_76 ?_
          refine v_iadd C dX2_readMilks_77 ?_
          refine v_puti C (cta_L a yc) (by omega) (by omega) ct_reader rfl 1 (by decide) wf21 hinX2 tyX2 tyX2_ok nmX2 rfl (by decide +kernel) (by simp) cs_reader_1 dX2_readMilks_78 ?_
          refine v_g (g' := (mu (mu (mu h (26 + 4) 6 (k + 1)) (36 + 4) k (lk (fun x9 => g0 (16 + r) x9) (g0 (6 + r) 1) ((sk (fun x9 => g0 (16 + r) x9) (g0 (6 + r) 1) pl + 1) + k) - 48)) (4) (1) (((sk (fun x9 => g0 (16 + r) x9) (g0 (6 + r) 1) pl + 1) + k) + 1))) rfl ?_
          refine v_goto (tgt := 17) C dX2_readMilks_81 (by decide) ?_
          exact ih17 ((mu (mu (mu h (26 + 4) 6 (k + 1)) (36 + 4) k (lk (fun x9 => g0 (16 + r) x9) (g0 (6 + r) 1) ((sk (fun x9 => g0 (16 + r) x9) (g0 (6 + r) 1) pl + 1) + k) - 48)) (4) (1) (((sk (fun x9 => g0 (16 + r) x9) (g0 (6 + r) 1) pl + 1) + k) + 1))) (k + 1) ⟨by rw [rD_s _ _ _ _ _ _ _ (by omega), ← Int.add_assoc]; exact CR_p (CR_m hI17.1 hck (by omega) _) _, by omega, by omega, by omega, by rw [← hI17.2.2.2.2, ← Int.add_assoc]; exact (ff_n (by omega) (fun h => absurd (of_decide_eq_true h) (by omega))).symm⟩ (by omega)
        · skip
          refine v_g (g' := h) (by rw [if_neg c66]) ?_
          refine v_iconst C dX2_readMilks_69 ?_
          exact v_ret_z C rfl (Or.inl rfl) dX2_readMilks_70 (by have hk8 : k = 6 := (by omega); have hz := it_m (B := (fun x9 => g0 (16 + r) x9)) (L := (g0 (6 + r) 1)) (c := 109) (lo := 48) (hi := 57) (bs := 14) (cs := 2) (p := pl) (mx := 6) (D := Dr) hl13 (by rw [← hI17.2.2.2.2, ff_n (by omega) (fun h => absurd (of_decide_eq_true h) (by omega)), ff_e (by omega)]); exact ⟨bI_f (by rw [hz.2.1]; decide), by rw [hz.1, hz.2.2]; have H := hI17.1; rw [hk8] at H; exact H⟩)
  · skip
    refine v_g (g' := h5) (by rw [if_neg c12]) ?_
    refine v_iconst C dX2_readMilks_15 ?_
    exact v_ret_z C rfl (Or.inl rfl) dX2_readMilks_16 (by have hz := it_n (B := (fun x9 => g0 (16 + r) x9)) (L := (g0 (6 + r) 1)) (c := 109) (lo := 48) (hi := 57) (bs := 14) (cs := 2) (p := pl) (mx := 6) (D := Dr) (fun z => c12 (e6.mpr z)); exact ⟨bI_f (by rw [hz.2.1]; decide), by rw [hz.1, hz.2.2]; exact H5⟩)

set_option maxRecDepth 100000 in
set_option maxHeartbeats 4000000 in
theorem c_X2_readBeast (l : Launch) (D : va_G) (yc : Nat → ClassId) (t1 t2 : Nat) (a : Int → Nat) (A : Nat → Prop) (g : Mm) (r : Int) (g0 : Mm) (Dr : Int → Int) (pl : Int) (hr : 6 ≤ r ∧ r < 10) (HR : CR g0 g Dr pl) (hL : -1 ≤ g0 (6 + r) 1 ∧ g0 (6 + r) 1 ≤ 60) (HB : ∀ j, -128 ≤ g0 (16 + r) j ∧ g0 (16 + r) j ≤ 127) (hp : 0 ≤ pl ∧ pl ≤ 60) (hn : Dr 0 < 6) : Ci l yX2_readBeast wsX2_readBeast { frames := 3, cells := 0, slots := 0, locals := 70 } D yc t1 t2 A (cw a yc) [.ref (a (4)), .ref (a (6 + r))] g (fun r9 g' => r9 = bI (bW (fun x9 => g0 (16 + r) x9) (g0 (6 + r) 1) Dr pl = 1) ∧ CR g0 g' (bD (fun x9 => g0 (16 + r) x9) (g0 (6 + r) 1) Dr pl) (bP (fun x9 => g0 (16 + r) x9) (g0 (6 + r) 1) Dr pl)) := by
  refine start_i (cc := cX2_readBeast) (nL := 5) (ret := (some .boolean)) (own := RX2) (by decide +kernel) rfl rfl (Nat.le_of_ble_eq_true rfl) ?_
  intro p e s m9 below meth c9 C
  have wf21 : Cond.fieldLink RX2 21 (TX2 1).1 (TX2 1).2.1 (TX2 1).2.2.1 ∈ wsX2_readBeast := by decide +kernel
  have hinX2 : ∀ w ∈ u_ws RX2 TX2 2, w ∈ wsX2_readBeast := by decide +kernel
  have wstX4_outside : Cond.static yX4_outside ∈ wsX2_readBeast := by decide +kernel
  have winiX4_outside : Cond.initialized yX4_outside.cls ∈ wsX2_readBeast := by decide +kernel
  have wf12 : Cond.fieldLink RX2 12 (TX2 0).1 (TX2 0).2.1 (TX2 0).2.2.1 ∈ wsX2_readBeast := by decide +kernel
  have hk := kd_r (lk (fun x9 => g0 (16 + r) x9) (g0 (6 + r) 1) pl)
  have hs0 := sg_bd (B := (fun x9 => g0 (16 + r) x9)) HB (g0 (6 + r) 1) pl
  have hs1 := sg_bd (B := (fun x9 => g0 (16 + r) x9)) HB (g0 (6 + r) 1) (pl + 1)
  have hs2 := sg_bd (B := (fun x9 => g0 (16 + r) x9)) HB (g0 (6 + r) 1) (pl + 2)
  have hl1 := lk_bd (B := (fun x9 => g0 (16 + r) x9)) HB (g0 (6 + r) 1) (pl + 1)
  have hl2 := lk_bd (B := (fun x9 => g0 (16 + r) x9)) HB (g0 (6 + r) 1) (pl + 2)
  have hq1 : ¬ kd (lk (fun x9 => g0 (16 + r) x9) (g0 (6 + r) 1) pl) = -9 → pl < (g0 (6 + r) 1) := fun h => kd_l h
  have hq2 : ¬ sg (fun x9 => g0 (16 + r) x9) (g0 (6 + r) 1) (pl + 1) = 256 → pl + 1 < (g0 (6 + r) 1) := (fun h => lk_32 (B := (fun x9 => g0 (16 + r) x9)) (by rw [sg_in h]; omega))
  have hq3 : ¬ sg (fun x9 => g0 (16 + r) x9) (g0 (6 + r) 1) (pl + 2) = 256 → pl + 2 < (g0 (6 + r) 1) := (fun h => lk_32 (B := (fun x9 => g0 (16 + r) x9)) (by rw [sg_in h]; omega))
  have hfl := fl_r (sg (fun x9 => g0 (16 + r) x9) (g0 (6 + r) 1) (pl + 2))
  have hn9 := HR.n
  refine v_lv (lv' := [(0, .ref (a (4))), (1, .ref (a (6 + r)))]) rfl ?_
  refine v_aload_n C 0 dX2_readBeast_0 rfl ?_
  refine v_aload_n C 1 dX2_readBeast_1 rfl ?_
  refine v_cV_i C (As := [.ref (a (6 + r))]) (rest := []) (c_X2_signHere l D yc t1 t2 a A g r (by omega) (by rw [HR.L hr.1 hr.2]; exact hL) (fun j => by rw [HR.B hr.1 hr.2]; exact HB j) (by rw [HR.p]; omega)) (cwV 1 C.hts gX2_readBeast_X2_signHere rfl rfl rfl (by decide +kernel) ⟨by decide, by decide⟩) (fun H hP => va_recv C.hK hP (ci := 2) (q0 := (4 : Int).toNat) rfl (wo_is (by omega) (by omega) ct_reader)) rfl rfl (Nat.le_of_ble_eq_true rfl) dX2_readBeast_2 ?_
  intro r9 g9 h9
  rw [h9.1, h9.2]
  clear h9 g9 r9
  try dsimp only
  refine v_st (st' := [.int (iI (sg (fun x9 => g0 (16 + r) x9) (g0 (6 + r) 1) pl))]) (by rw [HR.B hr.1 hr.2, HR.L hr.1 hr.2, HR.p]) ?_
  refine v_cS_i C (As := [.int (iI (sg (fun x9 => g0 (16 + r) x9) (g0 (6 + r) 1) pl))]) (rest := []) (c_X2_kindOfLetter l D yc t1 t2 A (cw a yc) g (sg (fun x9 => g0 (16 + r) x9) (g0 (6 + r) 1) pl) (by omega)) (va_cwS 1 C.hts gX2_readBeast_X2_kindOfLetter rfl rfl rfl (by decide +kernel) ⟨by decide, by decide⟩) rfl rfl (Nat.le_of_ble_eq_true rfl) dX2_readBeast_5 ?_
  intro r9 g9 h9
  rw [h9.1, h9.2]
  clear h9 g9 r9
  try dsimp only
  refine v_st (st' := [.int (iI (kd (lk (fun x9 => g0 (16 + r) x9) (g0 (6 + r) 1) pl)))]) (by rw [kd_sg]) ?_
  refine v_istore_n (lv' := [(2, .int (iI (kd (lk (fun x9 => g0 (16 + r) x9) (g0 (6 + r) 1) pl)))), (0, .ref (a (4))), (1, .ref (a (6 + r)))]) C dX2_readBeast_8 (by decide) rfl ?_
  refine v_iload_n C 0 dX2_readBeast_9 rfl ?_
  refine v_bipush C dX2_readBeast_10 (by decide) ?_
  refine v_icmp_ne (tgt := 17) C dX2_readBeast_12 (by decide) (by omega) (by omega) (fun c12 => ?_) (fun c12 => ?_)
  · skip
    refine v_aload_n C 1 dX2_readBeast_17 rfl ?_
    refine v_dup C dX2_readBeast_18 rfl ?_
    refine v_getf C (by omega) (by omega) ct_reader rfl 1 (by decide) wf21 hinX2 rfl dX2_readBeast_19 ?_
    refine v_st (st' := [.int (iI (pl)), .ref (a (4))]) (by rw [HR.p]) ?_
    refine v_iconst C dX2_readBeast_22 ?_
    refine v_iadd C dX2_readBeast_23 ?_
    refine v_puti C (cta_L a yc) (by omega) (by omega) ct_reader rfl 1 (by decide) wf21 hinX2 tyX2 tyX2_ok nmX2 rfl (by decide +kernel) (by simp) cs_reader_1 dX2_readBeast_24 ?_
    refine v_g (g' := (mu g (4) (1) (pl + 1))) rfl ?_
    refine v_aload_n C 1 dX2_readBeast_27 rfl ?_
    refine v_aload_n C 2 dX2_readBeast_28 rfl ?_
    refine v_cV_i C (As := [.ref (a (6 + r))]) (rest := []) (c_X2_signHere l D yc t1 t2 a A (mu g (4) (1) (pl + 1)) r (by omega) (by rw [(CR_p HR (pl + 1)).L hr.1 hr.2]; exact hL) (fun j => by rw [(CR_p HR (pl + 1)).B hr.1 hr.2]; exact HB j) (by rw [(CR_p HR (pl + 1)).p]; omega)) (cwV 1 C.hts gX2_readBeast_X2_signHere rfl rfl rfl (by decide +kernel) ⟨by decide, by decide⟩) (fun H hP => va_recv C.hK hP (ci := 2) (q0 := (4 : Int).toNat) rfl (wo_is (by omega) (by omega) ct_reader)) rfl rfl (Nat.le_of_ble_eq_true rfl) dX2_readBeast_29 ?_
    intro r9 g9 h9
    rw [h9.1, h9.2]
    clear h9 g9 r9
    try dsimp only
    refine v_st (st' := [.int (iI (sg (fun x9 => g0 (16 + r) x9) (g0 (6 + r) 1) (pl + 1)))]) (by rw [(CR_p HR (pl + 1)).B hr.1 hr.2, (CR_p HR (pl + 1)).L hr.1 hr.2, (CR_p HR (pl + 1)).p]) ?_
    refine v_istore_n (lv' := [(3, .int (iI (sg (fun x9 => g0 (16 + r) x9) (g0 (6 + r) 1) (pl + 1)))), (2, .int (iI (kd (lk (fun x9 => g0 (16 + r) x9) (g0 (6 + r) 1) pl)))), (0, .ref (a (4))), (1, .ref (a (6 + r)))]) C dX2_readBeast_32 (by decide) rfl ?_
    refine v_iload_n C 0 dX2_readBeast_33 rfl ?_
    refine v_bipush C dX2_readBeast_34 (by decide) ?_
    refine v_bipush C dX2_readBeast_36 (by decide) ?_
    refine v_cN_i C (As := [.int (iI (sg (fun x9 => g0 (16 + r) x9) (g0 (6 + r) 1) (pl + 1))), .int (iI (49)), .int (iI (57))]) (rest := []) (c_X4_outside l D yc t1 t2 A (cw a yc) (mu g (4) (1) (pl + 1)) (sg (fun x9 => g0 (16 + r) x9) (g0 (6 + r) 1) (pl + 1)) 49 57 (by omega) (by omega) (by omega)) ⟨va_cnB 3 C.hts gX2_readBeast_X4_outside_n63 rfl rfl rfl C.hF.2.2.2.1.2 (C.hts _ winiX4_outside) (by decide +kernel) ⟨by decide, by decide⟩, C.hts _ wstX4_outside, trivial⟩ rfl rfl (Nat.le_of_ble_eq_true rfl) dX2_readBeast_38 ?_
    intro r9 g9 h9
    rw [h9.1, h9.2]
    clear h9 g9 r9
    try dsimp only
    refine v_ifb_eq (tgt := 46) C dX2_readBeast_41 (by decide) (fun c41 => ?_) (fun c41 => ?_)
    · skip
      refine v_aload_n C 2 dX2_readBeast_46 rfl ?_
      refine v_dup C dX2_readBeast_47 rfl ?_
      refine v_getf C (by omega) (by omega) ct_reader rfl 1 (by decide) wf21 hinX2 rfl dX2_readBeast_48 ?_
      refine v_st (st' := [.int (iI (pl + 1)), .ref (a (4))]) (by rw [mu_at]) ?_
      refine v_iconst C dX2_readBeast_51 ?_
      refine v_iadd C dX2_readBeast_52 ?_
      refine v_puti C (cta_L a yc) (by omega) (by omega) ct_reader rfl 1 (by decide) wf21 hinX2 tyX2 tyX2_ok nmX2 rfl (by decide +kernel) (by simp) cs_reader_1 dX2_readBeast_53 ?_
      refine v_g (g' := (mu g (4) (1) ((pl + 1) + 1))) (mu_mu _ _ _ _ _) ?_
      refine v_g (g' := (mu g 4 1 (pl + 2))) (by rw [Int.add_assoc]; rfl) ?_
      refine v_aload_n C 2 dX2_readBeast_56 rfl ?_
      refine v_aload_n C 3 dX2_readBeast_57 rfl ?_
      refine v_cV_i C (As := [.ref (a (6 + r))]) (rest := []) (c_X2_signHere l D yc t1 t2 a A (mu g 4 1 (pl + 2)) r (by omega) (by rw [(CR_p HR (pl + 2)).L hr.1 hr.2]; exact hL) (fun j => by rw [(CR_p HR (pl + 2)).B hr.1 hr.2]; exact HB j) (by rw [(CR_p HR (pl + 2)).p]; omega)) (cwV 1 C.hts gX2_readBeast_X2_signHere rfl rfl rfl (by decide +kernel) ⟨by decide, by decide⟩) (fun H hP => va_recv C.hK hP (ci := 2) (q0 := (4 : Int).toNat) rfl (wo_is (by omega) (by omega) ct_reader)) rfl rfl (Nat.le_of_ble_eq_true rfl) dX2_readBeast_58 ?_
      intro r9 g9 h9
      rw [h9.1, h9.2]
      clear h9 g9 r9
      try dsimp only
      refine v_st (st' := [.int (iI (sg (fun x9 => g0 (16 + r) x9) (g0 (6 + r) 1) (pl + 2)))]) (by rw [(CR_p HR (pl + 2)).B hr.1 hr.2, (CR_p HR (pl + 2)).L hr.1 hr.2, (CR_p HR (pl + 2)).p]) ?_
      refine v_cS_i C (As := [.int (iI (sg (fun x9 => g0 (16 + r) x9) (g0 (6 + r) 1) (pl + 2)))]) (rest := []) (c_X2_farmOfLetter l D yc t1 t2 A (cw a yc) (mu g 4 1 (pl + 2)) (sg (fun x9 => g0 (16 + r) x9) (g0 (6 + r) 1) (pl + 2)) (by omega)) (va_cwS 1 C.hts gX2_readBeast_X2_farmOfLetter rfl rfl rfl (by decide +kernel) ⟨by decide, by decide⟩) rfl rfl (Nat.le_of_ble_eq_true rfl) dX2_readBeast_61 ?_
      intro r9 g9 h9
      rw [h9.1, h9.2]
      clear h9 g9 r9
      try dsimp only
      refine v_istore (lv' := [(4, .int (iI (if (sg (fun x9 => g0 (16 + r) x9) (g0 (6 + r) 1) (pl + 2)) = 97 then 0 else if (sg (fun x9 => g0 (16 + r) x9) (g0 (6 + r) 1) (pl + 2)) = 98 then 1 else -9))), (3, .int (iI (sg (fun x9 => g0 (16 + r) x9) (g0 (6 + r) 1) (pl + 1)))), (2, .int (iI (kd (lk (fun x9 => g0 (16 + r) x9) (g0 (6 + r) 1) pl)))), (0, .ref (a (4))), (1, .ref (a (6 + r)))]) C dX2_readBeast_64 (by decide) rfl ?_
      refine v_iload C 0 dX2_readBeast_66 rfl ?_
      refine v_bipush C dX2_readBeast_68 (by decide) ?_
      refine v_icmp_ne (tgt := 75) C dX2_readBeast_70 (by decide) (by omega) (by omega) (fun c70 => ?_) (fun c70 => ?_)
      · skip
        refine v_aload_n C 3 dX2_readBeast_75 rfl ?_
        refine v_dup C dX2_readBeast_76 rfl ?_
        refine v_getf C (by omega) (by omega) ct_reader rfl 1 (by decide) wf21 hinX2 rfl dX2_readBeast_77 ?_
        refine v_st (st' := [.int (iI (pl + 2)), .ref (a (4))]) (by rw [mu_at]) ?_
        refine v_iconst C dX2_readBeast_80 ?_
        refine v_iadd C dX2_readBeast_81 ?_
        refine v_puti C (cta_L a yc) (by omega) (by omega) ct_reader rfl 1 (by decide) wf21 hinX2 tyX2 tyX2_ok nmX2 rfl (by decide +kernel) (by simp) cs_reader_1 dX2_readBeast_82 ?_
        refine v_g (g' := (mu (mu g 4 1 (pl + 2)) (4) (1) ((pl + 2) + 1))) rfl ?_
        have e1 : lk (fun x9 => g0 (16 + r) x9) (g0 (6 + r) 1) (pl + 1) = sg (fun x9 => g0 (16 + r) x9) (g0 (6 + r) 1) (pl + 1) := sg_in (by omega)
        have e2 : lk (fun x9 => g0 (16 + r) x9) (g0 (6 + r) 1) (pl + 2) = sg (fun x9 => g0 (16 + r) x9) (g0 (6 + r) 1) (pl + 2) := sg_in (by omega)
        refine v_g (g' := (mu g 4 1 (pl + 3))) (by rw [mu_mu, Int.add_assoc]; rfl) ?_
        refine v_aload_n C 3 dX2_readBeast_85 rfl ?_
        refine v_getf C (by omega) (by omega) ct_reader rfl 0 (by decide) wf12 hinX2 rfl dX2_readBeast_86 ?_
        refine v_st (st' := [.ref (a (26 + 4))]) rfl ?_
        refine v_iload_n C 2 dX2_readBeast_89 rfl ?_
        refine v_iload_n C 1 dX2_readBeast_90 rfl ?_
        refine v_bipush C dX2_readBeast_91 (by decide) ?_
        refine v_isub C dX2_readBeast_93 ?_
        refine v_iload C 0 dX2_readBeast_94 rfl ?_
        refine v_cV_i C (As := [.int (iI (kd (lk (fun x9 => g0 (16 + r) x9) (g0 (6 + r) 1) pl))), .int (iI ((sg (fun x9 => g0 (16 + r) x9) (g0 (6 + r) 1) (pl + 1)) - 48)), .int (iI (if (sg (fun x9 => g0 (16 + r) x9) (g0 (6 + r) 1) (pl + 2)) = 97 then 0 else if (sg (fun x9 => g0 (16 + r) x9) (g0 (6 + r) 1) (pl + 2)) = 98 then 1 else -9))]) (rest := []) (c_X1_addBeast l D yc t1 t2 a A (mu g 4 1 (pl + 3)) 4 (kd (lk (fun x9 => g0 (16 + r) x9) (g0 (6 + r) 1) pl)) ((sg (fun x9 => g0 (16 + r) x9) (g0 (6 + r) 1) (pl + 1)) - 48) (if (sg (fun x9 => g0 (16 + r) x9) (g0 (6 + r) 1) (pl + 2)) = 97 then 0 else if (sg (fun x9 => g0 (16 + r) x9) (g0 (6 + r) 1) (pl + 2)) = 98 then 1 else -9) (by omega) (by rw [(CR_p HR (pl + 3)).bc]; omega) (by omega) (by omega)) (cwV 3 C.hts gX2_readBeast_X1_addBeast rfl rfl rfl (by decide +kernel) ⟨by decide, by decide⟩) (fun H hP => va_recv C.hK hP (ci := 1) (q0 := (26 + 4 : Int).toNat) rfl (wo_is (by omega) (by omega) (ct_farm (by omega) (by omega)))) rfl rfl (Nat.le_of_ble_eq_true rfl) dX2_readBeast_96 ?_
        intro r9 g9 h9
        rw [h9.1, h9.2]
        clear h9 g9 r9
        try dsimp only
        exact v_ret_z C rfl (bI_01 _) dX2_readBeast_99 (by have hb : b1 (fun x9 => g0 (16 + r) x9) (g0 (6 + r) 1) Dr pl := ⟨c12, hn⟩; have h2 : b2 (fun x9 => g0 (16 + r) x9) (g0 (6 + r) 1) pl := (by unfold b2; omega); have h3 : b3 (fun x9 => g0 (16 + r) x9) (g0 (6 + r) 1) pl := (by unfold b3; omega); have h123 := And.intro hb (And.intro h2 h3); have hw : bW (fun x9 => g0 (16 + r) x9) (g0 (6 + r) 1) Dr pl = 1 := (by unfold bW; rw [if_pos h123]); exact ⟨bI_cg ⟨fun _ => hw, fun _ => by rw [(CR_p HR (pl + 3)).bc]; exact hn⟩, by unfold bD bP; rw [(CR_p HR (pl + 3)).bc, if_pos hn, if_pos h123, if_pos hb, if_pos h2, if_pos h3, e1, hfl.2 (by omega) (by omega), e2]; exact CR_b (CR_p HR (pl + 3)) rfl hn⟩)
      · skip
        refine v_iconst C dX2_readBeast_73 ?_
        exact v_ret_z C rfl (Or.inl rfl) dX2_readBeast_74 (by have hb : b1 (fun x9 => g0 (16 + r) x9) (g0 (6 + r) 1) Dr pl := ⟨c12, hn⟩; have h2 : b2 (fun x9 => g0 (16 + r) x9) (g0 (6 + r) 1) pl := (by have e1 := sg_in (B := (fun x9 => g0 (16 + r) x9)) (L := (g0 (6 + r) 1)) (p := pl + 1) (by omega); unfold b2; omega); have h3 : ¬ b3 (fun x9 => g0 (16 + r) x9) (g0 (6 + r) 1) pl := (fun z => by have hx := z; unfold b3 at hx; have e := sg_lk (B := (fun x9 => g0 (16 + r) x9)) (L := (g0 (6 + r) 1)) (p := pl + 2) (c := lk (fun x9 => g0 (16 + r) x9) (g0 (6 + r) 1) (pl + 2)) (by omega) (by omega); have := e.mpr rfl; omega); exact ⟨bI_f (by unfold bW; rw [if_neg (fun h => h3 h.2.2)]; decide), by unfold bD bP; rw [if_neg (fun h => h3 h.2.2), if_pos hb, if_pos h2, if_neg h3]; exact (CR_p HR (pl + 2))⟩)
    · skip
      refine v_iconst C dX2_readBeast_44 ?_
      exact v_ret_z C rfl (Or.inl rfl) dX2_readBeast_45 (by have hb : b1 (fun x9 => g0 (16 + r) x9) (g0 (6 + r) 1) Dr pl := ⟨c12, hn⟩; have h2 : ¬ b2 (fun x9 => g0 (16 + r) x9) (g0 (6 + r) 1) pl := (fun z => by have hx := z; unfold b2 at hx; have e := sg_lk (B := (fun x9 => g0 (16 + r) x9)) (L := (g0 (6 + r) 1)) (p := pl + 1) (c := lk (fun x9 => g0 (16 + r) x9) (g0 (6 + r) 1) (pl + 1)) (by omega) (by omega); have := e.mpr rfl; omega); exact ⟨bI_f (by unfold bW; rw [if_neg (fun h => h2 h.2.1)]; decide), by unfold bD bP; rw [if_neg (fun h => h2 h.2.1), if_pos hb, if_neg h2]; exact (CR_p HR (pl + 1))⟩)
  · skip
    refine v_iconst C dX2_readBeast_15 ?_
    exact v_ret_z C rfl (Or.inl rfl) dX2_readBeast_16 (by have hb : ¬ b1 (fun x9 => g0 (16 + r) x9) (g0 (6 + r) 1) Dr pl := (fun z => z.1 c12); exact ⟨bI_f (by unfold bW; rw [if_neg (fun h => hb h.1)]; decide), by unfold bD bP; rw [if_neg (fun h => hb h.1), if_neg hb]; exact HR⟩)

set_option maxRecDepth 100000 in
set_option maxHeartbeats 4000000 in
theorem c_X2_readBeasts (l : Launch) (D : va_G) (yc : Nat → ClassId) (t1 t2 : Nat) (a : Int → Nat) (A : Nat → Prop) (g : Mm) (r : Int) (g0 : Mm) (Dr : Int → Int) (pl : Int) (hr : 6 ≤ r ∧ r < 10) (HR : CR g0 g Dr pl) (hL : -1 ≤ g0 (6 + r) 1 ∧ g0 (6 + r) 1 ≤ 60) (HB : ∀ j, -128 ≤ g0 (16 + r) j ∧ g0 (16 + r) j ≤ 127) (hp : 0 ≤ pl ∧ pl ≤ 60) (hn : Dr 0 = 0) : Ci l yX2_readBeasts wsX2_readBeasts { frames := 4, cells := 0, slots := 0, locals := 94 } D yc t1 t2 A (cw a yc) [.ref (a (4)), .ref (a (6 + r))] g (fun r9 g' => r9 = bI ((bsL (fun x9 => g0 (16 + r) x9) (g0 (6 + r) 1) 8 Dr (sk (fun x9 => g0 (16 + r) x9) (g0 (6 + r) 1) pl)).2.1 = 1) ∧ CR g0 g' (bsL (fun x9 => g0 (16 + r) x9) (g0 (6 + r) 1) 8 Dr (sk (fun x9 => g0 (16 + r) x9) (g0 (6 + r) 1) pl)).2.2 (bsL (fun x9 => g0 (16 + r) x9) (g0 (6 + r) 1) 8 Dr (sk (fun x9 => g0 (16 + r) x9) (g0 (6 + r) 1) pl)).1) := by
  refine start_i (cc := cX2_readBeasts) (nL := 3) (ret := (some .boolean)) (own := RX2) (by decide +kernel) rfl rfl (Nat.le_of_ble_eq_true rfl) ?_
  intro p e s m9 below meth c9 C
  have wf12 : Cond.fieldLink RX2 12 (TX2 0).1 (TX2 0).2.1 (TX2 0).2.2.1 ∈ wsX2_readBeasts := by decide +kernel
  have hinX2 : ∀ w ∈ u_ws RX2 TX2 2, w ∈ wsX2_readBeasts := by decide +kernel
  have wf76 : Cond.fieldLink RX2 76 (TX1 7).1 (TX1 7).2.1 (TX1 7).2.2.1 ∈ wsX2_readBeasts := by decide +kernel
  have hinX1 : ∀ w ∈ u_ws RX1 TX1 11, w ∈ wsX2_readBeasts := by decide +kernel
  have wf21 : Cond.fieldLink RX2 21 (TX2 1).1 (TX2 1).2.1 (TX2 1).2.2.1 ∈ wsX2_readBeasts := by decide +kernel
  have wf43 : Cond.fieldLink RX2 43 (TX3 1).1 (TX3 1).2.1 (TX3 1).2.2.1 ∈ wsX2_readBeasts := by decide +kernel
  have hinX3 : ∀ w ∈ u_ws RX3 TX3 2, w ∈ wsX2_readBeasts := by decide +kernel
  have hsr := sk_r (fun x9 => g0 (16 + r) x9) (L := (g0 (6 + r) 1)) (p := pl) hL.2 hp.2
  refine v_lv (lv' := [(0, .ref (a (4))), (1, .ref (a (6 + r)))]) rfl ?_
  refine v_aload_n C 0 dX2_readBeasts_0 rfl ?_
  refine v_aload_n C 1 dX2_readBeasts_1 rfl ?_
  refine v_cV_v C (As := [.ref (a (6 + r))]) (rest := []) (c_X2_skipBlanks l D yc t1 t2 a A g r (by omega) (by rw [HR.L hr.1 hr.2]; exact hL) (fun j => by rw [HR.B hr.1 hr.2]; exact HB j) (by rw [HR.p]; omega)) (cwV 1 C.hts gX2_readBeasts_X2_skipBlanks rfl rfl rfl (by decide +kernel) ⟨by decide, by decide⟩) (fun H hP => va_recv C.hK hP (ci := 2) (q0 := (4 : Int).toNat) rfl (wo_is (by omega) (by omega) ct_reader)) rfl rfl (Nat.le_of_ble_eq_true rfl) dX2_readBeasts_2 ?_
  intro g9 h9
  rw [h9]
  clear h9 g9
  try dsimp only
  refine v_iconst C dX2_readBeasts_5 ?_
  refine v_istore_n (lv' := [(2, .int (iI (0))), (0, .ref (a (4))), (1, .ref (a (6 + r)))]) C dX2_readBeasts_6 (by decide) rfl ?_
  refine v_lv (congrArg (fun x9 => ([(2, .int (iI x9)), (0, .ref (a (4))), (1, .ref (a (6 + r)))] : List (Nat × Value))) (show (0) = (((0 : Int))) by first | rfl | omega | (simp; done))) ?_
  refine v_loop4 (fun (h : Mm) (E : Int → Int) (x : Int) (n : Int) => (6 - n).toNat) (fun (h : Mm) (E : Int → Int) (x : Int) (n : Int) => CR g0 h E x ∧ E 0 = n ∧ 0 ≤ n ∧ n ≤ 6 ∧ 0 ≤ x ∧ x ≤ 60 ∧ ((x < (g0 (6 + r) 1) ∨ n = 0) → bsL (fun x9 => g0 (16 + r) x9) (g0 (6 + r) 1) (8 - n).toNat E x = (bsL (fun x9 => g0 (16 + r) x9) (g0 (6 + r) 1) 8 Dr (sk (fun x9 => g0 (16 + r) x9) (g0 (6 + r) 1) pl))) ∧ (0 < n → ¬ x < (g0 (6 + r) 1) → (bsL (fun x9 => g0 (16 + r) x9) (g0 (6 + r) 1) 8 Dr (sk (fun x9 => g0 (16 + r) x9) (g0 (6 + r) 1) pl)) = (x, 1, E))) (fun (h : Mm) (E : Int → Int) (x : Int) (n : Int) => [(2, .int (iI (n))), (0, .ref (a (4))), (1, .ref (a (6 + r)))]) (fun (h : Mm) (E : Int → Int) (x : Int) (n : Int) => h) ?_ ((mu g 4 1 (sk (fun x9 => g (16 + r) x9) (g (6 + r) 1) (g 4 1)))) Dr (sk (fun x9 => g0 (16 + r) x9) (g0 (6 + r) 1) pl) 0 ⟨by rw [HR.B hr.1 hr.2, HR.L hr.1 hr.2, HR.p]; exact CR_p HR _, hn, by omega, by omega, by omega, by omega, fun _ => rfl, fun h => absurd h (by omega)⟩
  intro h E x n hI7 ih7
  try dsimp only at ih7 ⊢
  refine v_iload_n C 0 dX2_readBeasts_7 rfl ?_
  refine v_bipush C dX2_readBeasts_8 (by decide) ?_
  refine v_icmp_ge (tgt := 45) C dX2_readBeasts_10 (by decide) (by omega) (by omega) (fun c10 => ?_) (fun c10 => ?_)
  · skip
    refine v_aload_n C 1 dX2_readBeasts_45 rfl ?_
    refine v_getf C (by omega) (by omega) ct_reader rfl 0 (by decide) wf12 hinX2 rfl dX2_readBeasts_46 ?_
    refine v_st (st' := [.ref (a (26 + 4))]) rfl ?_
    refine v_getf C (by omega) (by omega) (ct_farm (by omega) (by omega)) rfl 7 (by decide) wf76 hinX1 rfl dX2_readBeasts_49 ?_
    refine v_st (st' := [.int (iI (n))]) (by rw [hI7.1.bc, hI7.2.1]; try rfl) ?_
    refine v_if_le (tgt := 70) C dX2_readBeasts_52 (by decide) (by omega) (fun c52 => ?_) (fun c52 => ?_)
    · skip
      refine v_iconst C dX2_readBeasts_70 ?_
      exact v_ret_z C rfl (Or.inl rfl) dX2_readBeasts_71 (by first | (have hz := hI7.2.2.2.2.2.2.2 (by omega) (by omega); exact ⟨bI_t (by rw [hz]), by rw [hz]; exact hI7.1⟩) | (have hb : bW (fun x9 => g0 (16 + r) x9) (g0 (6 + r) 1) E x = 0 := (by unfold bW; rw [if_neg]; intro z; have z1 := kd_l z.1.1; have z2 := z.1.2; omega); have hp0 : bP (fun x9 => g0 (16 + r) x9) (g0 (6 + r) 1) E x = x := (by unfold bP; rw [if_neg]; intro z; have z1 := kd_l z.1; have z2 := z.2; omega); have hd0 : bD (fun x9 => g0 (16 + r) x9) (g0 (6 + r) 1) E x = E := (by unfold bD; rw [if_neg]; intro z; have z1 := kd_l z.1.1; have z2 := z.1.2; omega); have hz := hI7.2.2.2.2.2.2.1 (by omega); rw [show (8 - n).toNat = (7 - n).toNat + 1 by omega, bs_n hb, hp0, hd0] at hz; exact ⟨bI_f (by rw [← hz]; show ¬ (0 : Int) = 1; decide), by rw [← hz]; exact hI7.1⟩))
    · skip
      refine v_aload_n C 1 dX2_readBeasts_55 rfl ?_
      refine v_getf C (by omega) (by omega) ct_reader rfl 1 (by decide) wf21 hinX2 rfl dX2_readBeasts_56 ?_
      refine v_st (st' := [.int (iI (x))]) (by rw [hI7.1.p]; try rfl) ?_
      refine v_aload_n C 2 dX2_readBeasts_59 rfl ?_
      refine v_getf C (by omega) (by omega) (ct_row (by omega) (by omega)) rfl 1 (by decide) wf43 hinX3 rfl dX2_readBeasts_60 ?_
      refine v_st (st' := [.int (iI (g0 (6 + r) 1)), .int (iI (x))]) (by rw [hI7.1.L hr.1 hr.2]; try rfl) ?_
      refine v_icmp_lt (tgt := 70) C dX2_readBeasts_63 (by decide) (by omega) (by omega) (fun c63 => ?_) (fun c63 => ?_)
      · skip
        refine v_iconst C dX2_readBeasts_70 ?_
        exact v_ret_z C rfl (Or.inl rfl) dX2_readBeasts_71 (by first | (have hz := hI7.2.2.2.2.2.2.2 (by omega) (by omega); exact ⟨bI_t (by rw [hz]), by rw [hz]; exact hI7.1⟩) | (have hb : bW (fun x9 => g0 (16 + r) x9) (g0 (6 + r) 1) E x = 0 := (by unfold bW; rw [if_neg]; intro z; have z1 := kd_l z.1.1; have z2 := z.1.2; omega); have hp0 : bP (fun x9 => g0 (16 + r) x9) (g0 (6 + r) 1) E x = x := (by unfold bP; rw [if_neg]; intro z; have z1 := kd_l z.1; have z2 := z.2; omega); have hd0 : bD (fun x9 => g0 (16 + r) x9) (g0 (6 + r) 1) E x = E := (by unfold bD; rw [if_neg]; intro z; have z1 := kd_l z.1.1; have z2 := z.1.2; omega); have hz := hI7.2.2.2.2.2.2.1 (by omega); rw [show (8 - n).toNat = (7 - n).toNat + 1 by omega, bs_n hb, hp0, hd0] at hz; exact ⟨bI_f (by rw [← hz]; show ¬ (0 : Int) = 1; decide), by rw [← hz]; exact hI7.1⟩))
      · skip
        refine v_iconst C dX2_readBeasts_66 ?_
        refine v_goto (tgt := 71) C dX2_readBeasts_67 (by decide) ?_
        exact v_ret_z C rfl (Or.inr rfl) dX2_readBeasts_71 (by first | (have hz := hI7.2.2.2.2.2.2.2 (by omega) (by omega); exact ⟨bI_t (by rw [hz]), by rw [hz]; exact hI7.1⟩) | (have hb : bW (fun x9 => g0 (16 + r) x9) (g0 (6 + r) 1) E x = 0 := (by unfold bW; rw [if_neg]; intro z; have z1 := kd_l z.1.1; have z2 := z.1.2; omega); have hp0 : bP (fun x9 => g0 (16 + r) x9) (g0 (6 + r) 1) E x = x := (by unfold bP; rw [if_neg]; intro z; have z1 := kd_l z.1; have z2 := z.2; omega); have hd0 : bD (fun x9 => g0 (16 + r) x9) (g0 (6 + r) 1) E x = E := (by unfold bD; rw [if_neg]; intro z; have z1 := kd_l z.1.1; have z2 := z.1.2; omega); have hz := hI7.2.2.2.2.2.2.1 (by omega); rw [show (8 - n).toNat = (7 - n).toNat + 1 by omega, bs_n hb, hp0, hd0] at hz; exact ⟨bI_f (by rw [← hz]; show ¬ (0 : Int) = 1; decide), by rw [← hz]; exact hI7.1⟩))
  · skip
    refine v_aload_n C 1 dX2_readBeasts_13 rfl ?_
    refine v_getf C (by omega) (by omega) ct_reader rfl 1 (by decide) wf21 hinX2 rfl dX2_readBeasts_14 ?_
    refine v_st (st' := [.int (iI (x))]) (by rw [hI7.1.p]; try rfl) ?_
    refine v_aload_n C 2 dX2_readBeasts_17 rfl ?_
    refine v_getf C (by omega) (by omega) (ct_row (by omega) (by omega)) rfl 1 (by decide) wf43 hinX3 rfl dX2_readBeasts_18 ?_
    refine v_st (st' := [.int (iI (g0 (6 + r) 1)), .int (iI (x))]) (by rw [hI7.1.L hr.1 hr.2]; try rfl) ?_
    refine v_icmp_ge (tgt := 45) C dX2_readBeasts_21 (by decide) (by omega) (by omega) (fun c21 => ?_) (fun c21 => ?_)
    · skip
      refine v_aload_n C 1 dX2_readBeasts_45 rfl ?_
      refine v_getf C (by omega) (by omega) ct_reader rfl 0 (by decide) wf12 hinX2 rfl dX2_readBeasts_46 ?_
      refine v_st (st' := [.ref (a (26 + 4))]) rfl ?_
      refine v_getf C (by omega) (by omega) (ct_farm (by omega) (by omega)) rfl 7 (by decide) wf76 hinX1 rfl dX2_readBeasts_49 ?_
      refine v_st (st' := [.int (iI (n))]) (by rw [hI7.1.bc, hI7.2.1]; try rfl) ?_
      refine v_if_le (tgt := 70) C dX2_readBeasts_52 (by decide) (by omega) (fun c52 => ?_) (fun c52 => ?_)
      · skip
        refine v_iconst C dX2_readBeasts_70 ?_
        exact v_ret_z C rfl (Or.inl rfl) dX2_readBeasts_71 (by first | (have hz := hI7.2.2.2.2.2.2.2 (by omega) (by omega); exact ⟨bI_t (by rw [hz]), by rw [hz]; exact hI7.1⟩) | (have hb : bW (fun x9 => g0 (16 + r) x9) (g0 (6 + r) 1) E x = 0 := (by unfold bW; rw [if_neg]; intro z; have z1 := kd_l z.1.1; have z2 := z.1.2; omega); have hp0 : bP (fun x9 => g0 (16 + r) x9) (g0 (6 + r) 1) E x = x := (by unfold bP; rw [if_neg]; intro z; have z1 := kd_l z.1; have z2 := z.2; omega); have hd0 : bD (fun x9 => g0 (16 + r) x9) (g0 (6 + r) 1) E x = E := (by unfold bD; rw [if_neg]; intro z; have z1 := kd_l z.1.1; have z2 := z.1.2; omega); have hz := hI7.2.2.2.2.2.2.1 (by omega); rw [show (8 - n).toNat = (7 - n).toNat + 1 by omega, bs_n hb, hp0, hd0] at hz; exact ⟨bI_f (by rw [← hz]; show ¬ (0 : Int) = 1; decide), by rw [← hz]; exact hI7.1⟩))
      · skip
        refine v_aload_n C 1 dX2_readBeasts_55 rfl ?_
        refine v_getf C (by omega) (by omega) ct_reader rfl 1 (by decide) wf21 hinX2 rfl dX2_readBeasts_56 ?_
        refine v_st (st' := [.int (iI (x))]) (by rw [hI7.1.p]; try rfl) ?_
        refine v_aload_n C 2 dX2_readBeasts_59 rfl ?_
        refine v_getf C (by omega) (by omega) (ct_row (by omega) (by omega)) rfl 1 (by decide) wf43 hinX3 rfl dX2_readBeasts_60 ?_
        refine v_st (st' := [.int (iI (g0 (6 + r) 1)), .int (iI (x))]) (by rw [hI7.1.L hr.1 hr.2]; try rfl) ?_
        refine v_icmp_lt (tgt := 70) C dX2_readBeasts_63 (by decide) (by omega) (by omega) (fun c63 => ?_) (fun c63 => ?_)
        · skip
          refine v_iconst C dX2_readBeasts_70 ?_
          exact v_ret_z C rfl (Or.inl rfl) dX2_readBeasts_71 (by first | (have hz := hI7.2.2.2.2.2.2.2 (by omega) (by omega); exact ⟨bI_t (by rw [hz]), by rw [hz]; exact hI7.1⟩) | (have hb : bW (fun x9 => g0 (16 + r) x9) (g0 (6 + r) 1) E x = 0 := (by unfold bW; rw [if_neg]; intro z; have z1 := kd_l z.1.1; have z2 := z.1.2; omega); have hp0 : bP (fun x9 => g0 (16 + r) x9) (g0 (6 + r) 1) E x = x := (by unfold bP; rw [if_neg]; intro z; have z1 := kd_l z.1; have z2 := z.2; omega); have hd0 : bD (fun x9 => g0 (16 + r) x9) (g0 (6 + r) 1) E x = E := (by unfold bD; rw [if_neg]; intro z; have z1 := kd_l z.1.1; have z2 := z.1.2; omega); have hz := hI7.2.2.2.2.2.2.1 (by omega); rw [show (8 - n).toNat = (7 - n).toNat + 1 by omega, bs_n hb, hp0, hd0] at hz; exact ⟨bI_f (by rw [← hz]; show ¬ (0 : Int) = 1; decide), by rw [← hz]; exact hI7.1⟩))
        · skip
          refine v_iconst C dX2_readBeasts_66 ?_
          refine v_goto (tgt := 71) C dX2_readBeasts_67 (by decide) ?_
          exact v_ret_z C rfl (Or.inr rfl) dX2_readBeasts_71 (by first | (have hz := hI7.2.2.2.2.2.2.2 (by omega) (by omega); exact ⟨bI_t (by rw [hz]), by rw [hz]; exact hI7.1⟩) | (have hb : bW (fun x9 => g0 (16 + r) x9) (g0 (6 + r) 1) E x = 0 := (by unfold bW; rw [if_neg]; intro z; have z1 := kd_l z.1.1; have z2 := z.1.2; omega); have hp0 : bP (fun x9 => g0 (16 + r) x9) (g0 (6 + r) 1) E x = x := (by unfold bP; rw [if_neg]; intro z; have z1 := kd_l z.1; have z2 := z.2; omega); have hd0 : bD (fun x9 => g0 (16 + r) x9) (g0 (6 + r) 1) E x = E := (by unfold bD; rw [if_neg]; intro z; have z1 := kd_l z.1.1; have z2 := z.1.2; omega); have hz := hI7.2.2.2.2.2.2.1 (by omega); rw [show (8 - n).toNat = (7 - n).toNat + 1 by omega, bs_n hb, hp0, hd0] at hz; exact ⟨bI_f (by rw [← hz]; show ¬ (0 : Int) = 1; decide), by rw [← hz]; exact hI7.1⟩))
    · skip
      refine v_aload_n C 1 dX2_readBeasts_24 rfl ?_
      refine v_aload_n C 2 dX2_readBeasts_25 rfl ?_
      refine v_cV_i C (As := [.ref (a (6 + r))]) (rest := []) (c_X2_readBeast l D yc t1 t2 a A h r g0 E x (by omega) hI7.1 (by omega) HB (by omega) (by omega)) (cwV 1 C.hts gX2_readBeasts_X2_readBeast rfl rfl rfl (by decide +kernel) ⟨by decide, by decide⟩) (fun H hP => va_recv C.hK hP (ci := 2) (q0 := (4 : Int).toNat) rfl (wo_is (by omega) (by omega) ct_reader)) rfl rfl (Nat.le_of_ble_eq_true rfl) dX2_readBeasts_26 ?_
      rintro r26 g26 ⟨rfl, H26⟩
      try dsimp only
      have hbr := bP_r (B := (fun x9 => g0 (16 + r) x9)) (L := (g0 (6 + r) 1)) (D := E) (p := x) (by omega) hL.2 (by omega)
      have hsx := sk_r (fun x9 => g0 (16 + r) x9) (L := (g0 (6 + r) 1)) (p := bP (fun x9 => g0 (16 + r) x9) (g0 (6 + r) 1) E x) hL.2 hbr.2
      have hbw := bW_01 (fun x9 => g0 (16 + r) x9) (g0 (6 + r) 1) E x
      have hb6 := bW_6 (B := (fun x9 => g0 (16 + r) x9)) (L := (g0 (6 + r) 1)) (D := E) (p := x)
      refine v_ifb_ne (tgt := 34) C dX2_readBeasts_29 (by decide) (fun c29 => ?_) (fun c29 => ?_)
      · skip
        refine v_aload_n C 1 dX2_readBeasts_34 rfl ?_
        refine v_aload_n C 2 dX2_readBeasts_35 rfl ?_
        refine v_cV_v C (As := [.ref (a (6 + r))]) (rest := []) (c_X2_skipBlanks l D yc t1 t2 a A g26 r (by omega) (by rw [H26.L hr.1 hr.2]; exact hL) (fun j => by rw [H26.B hr.1 hr.2]; exact HB j) (by rw [H26.p]; omega)) (cwV 1 C.hts gX2_readBeasts_X2_skipBlanks rfl rfl rfl (by decide +kernel) ⟨by decide, by decide⟩) (fun H hP => va_recv C.hK hP (ci := 2) (q0 := (4 : Int).toNat) rfl (wo_is (by omega) (by omega) ct_reader)) rfl rfl (Nat.le_of_ble_eq_true rfl) dX2_readBeasts_36 ?_
        intro g9 h9
        rw [h9]
        clear h9 g9
        try dsimp only
        refine v_iinc (z' := n + 1) (lv' := [(2, .int (iI (n + 1))), (0, .ref (a (4))), (1, .ref (a (6 + r)))]) C 0 dX2_readBeasts_39 rfl (by omega) (by decide) rfl ?_
        refine v_goto (tgt := 7) C dX2_readBeasts_42 (by decide) ?_
        exact ih7 (((mu g26 4 1 (sk (fun x9 => g26 (16 + r) x9) (g26 (6 + r) 1) (g26 4 1))))) (bD (fun x9 => g0 (16 + r) x9) (g0 (6 + r) 1) E x) (sk (fun x9 => g0 (16 + r) x9) (g0 (6 + r) 1) (bP (fun x9 => g0 (16 + r) x9) (g0 (6 + r) 1) E x)) (n + 1) ⟨by rw [H26.B hr.1 hr.2, H26.L hr.1 hr.2, H26.p]; exact CR_p H26 _, by rw [bD_0]; omega, by omega, by omega, by omega, by omega, fun z => by rw [← hI7.2.2.2.2.2.2.1 (Or.inl c21), show (8 - n).toNat = (8 - (n + 1)).toNat + 1 by omega, bs_y (by omega), if_pos (by omega)], fun _ z => by rw [← hI7.2.2.2.2.2.2.1 (Or.inl c21), show (8 - n).toNat = (8 - (n + 1)).toNat + 1 by omega, bs_y (by omega), if_neg z]⟩ (by omega)
      · skip
        refine v_iconst C dX2_readBeasts_32 ?_
        exact v_ret_z C rfl (Or.inl rfl) dX2_readBeasts_33 (by have hz := hI7.2.2.2.2.2.2.1 (Or.inl c21); rw [show (8 - n).toNat = (8 - (n + 1)).toNat + 1 by omega, bs_n (by omega)] at hz; exact ⟨bI_f (by rw [← hz]; show ¬ (0 : Int) = 1; decide), by rw [← hz]; exact H26⟩)

set_option maxRecDepth 100000 in
set_option maxHeartbeats 4000000 in
theorem c_X2_read (l : Launch) (D : va_G) (yc : Nat → ClassId) (t1 t2 : Nat) (a : Int → Nat) (A : Nat → Prop) (g : Mm) (r : Int) (Dz : Int → Int) (hr : 6 ≤ r ∧ r < 10) (hL : -1 ≤ g (6 + r) 1 ∧ g (6 + r) 1 ≤ 60) (HB : ∀ j, -128 ≤ g (16 + r) j ∧ g (16 + r) j ≤ 127) (hz : Dz 0 = 0 ∧ Dz 1 = 0 ∧ Dz 2 = 0 ∧ Dz 3 = 0 ∧ Dz 4 = 0 ∧ Dz 5 = 0) : Ci l yX2_read wsX2_read { frames := 5, cells := 0, slots := 0, locals := 116 } D yc t1 t2 A (cw a yc) [.ref (a (4)), .ref (a (6 + r))] g (fun r9 g' => r9 = iI (if (qB (fun x9 => g (16 + r) x9) (g (6 + r) 1) Dz).2.1 = 0 then (qB (fun x9 => g (16 + r) x9) (g (6 + r) 1) Dz).1 else -9) ∧ CR g g' (qB (fun x9 => g (16 + r) x9) (g (6 + r) 1) Dz).2.2 (qB (fun x9 => g (16 + r) x9) (g (6 + r) 1) Dz).1) := by
  refine start_i (cc := cX2_read) (nL := 3) (ret := (some .int)) (own := RX2) (by decide +kernel) rfl rfl (Nat.le_of_ble_eq_true rfl) ?_
  intro p e s m9 below meth c9 C
  have wf12 : Cond.fieldLink RX2 12 (TX2 0).1 (TX2 0).2.1 (TX2 0).2.2.1 ∈ wsX2_read := by decide +kernel
  have hinX2 : ∀ w ∈ u_ws RX2 TX2 2, w ∈ wsX2_read := by decide +kernel
  have wf21 : Cond.fieldLink RX2 21 (TX2 1).1 (TX2 1).2.1 (TX2 1).2.2.1 ∈ wsX2_read := by decide +kernel
  have hT := qT_r (B := (fun x9 => g (16 + r) x9)) (D := Dz) hL.2
  have hT1 : (qT (fun x9 => g (16 + r) x9) (g (6 + r) 1) Dz).2.2 2 = 0 := (by rw [qT_o hL.2 (by decide) (by decide)]; exact hz.2.2.1)
  have hT0 : (qT (fun x9 => g (16 + r) x9) (g (6 + r) 1) Dz).2.2 0 = 0 := (by rw [qT_o hL.2 (by decide) (by decide)]; exact hz.1)
  have hM := iP_r (B := (fun x9 => g (16 + r) x9)) (L := (g (6 + r) 1)) (c := 109) (lo := 48) (hi := 57) (mx := 6) (p := (qT (fun x9 => g (16 + r) x9) (g (6 + r) 1) Dz).1) hT.1 hT.2 hL.2 (by omega) (by omega)
  have hM0 : (iD (fun x9 => g (16 + r) x9) (g (6 + r) 1) 109 48 57 14 2 6 (qT (fun x9 => g (16 + r) x9) (g (6 + r) 1) Dz).1 (qT (fun x9 => g (16 + r) x9) (g (6 + r) 1) Dz).2.2) 0 = 0 := (by rw [iD_o (by have := sk_r (fun x9 => g (16 + r) x9) (L := (g (6 + r) 1)) (p := (qT (fun x9 => g (16 + r) x9) (g (6 + r) 1) Dz).1) hL.2 hT.2; omega) (by decide) (by decide)]; exact hT0)
  refine v_lv (lv' := [(0, .ref (a (4))), (1, .ref (a (6 + r)))]) rfl ?_
  refine v_aload_n C 0 dX2_read_0 rfl ?_
  refine v_getf C (by omega) (by omega) ct_reader rfl 0 (by decide) wf12 hinX2 rfl dX2_read_1 ?_
  refine v_st (st' := [.ref (a (26 + 4))]) rfl ?_
  refine v_cV_v C (As := []) (rest := []) (c_X1_clear l D yc t1 t2 a A g 4 (by omega)) (cwV 0 C.hts gX2_read_X1_clear rfl rfl rfl (by decide +kernel) ⟨by decide, by decide⟩) (fun H hP => va_recv C.hK hP (ci := 1) (q0 := (26 + 4 : Int).toNat) rfl (wo_is (by omega) (by omega) (ct_farm (by omega) (by omega)))) rfl rfl (Nat.le_of_ble_eq_true rfl) dX2_read_4 ?_
  intro g9 h9
  rw [h9]
  clear h9 g9
  try dsimp only
  refine v_aload_n C 0 dX2_read_7 rfl ?_
  refine v_iconst C dX2_read_8 ?_
  refine v_puti C (cta_L a yc) (by omega) (by omega) ct_reader rfl 1 (by decide) wf21 hinX2 tyX2 tyX2_ok nmX2 rfl (by decide +kernel) (by simp) cs_reader_1 dX2_read_9 ?_
  refine v_g (g' := (mu ((mu (mu (mu (mu (mu (mu g (26 + 4) 5 0) (26 + 4) 6 0) (26 + 4) 7 0) (26 + 4) 8 0) (26 + 4) 9 0) (26 + 4) 10 0)) (4) (1) (0))) rfl ?_
  obtain ⟨h12, hm12, H12⟩ : ∃ h, mu (mu (mu (mu (mu (mu (mu g (26 + 4) 5 0) (26 + 4) 6 0) (26 + 4) 7 0) (26 + 4) 8 0) (26 + 4) 9 0) (26 + 4) 10 0) 4 1 0 = h ∧ CR g h Dz 0 := ⟨_, rfl, CR_0 hz⟩
  refine v_g (g' := h12) hm12 ?_
  refine v_aload_n C 0 dX2_read_12 rfl ?_
  refine v_aload_n C 1 dX2_read_13 rfl ?_
  refine v_cV_i C (As := [.ref (a (6 + r))]) (rest := []) (c_X2_readTurns l D yc t1 t2 a A h12 r g Dz 0 (by omega) H12 (by omega) HB (by omega) hz.2.1) (cwV 1 C.hts gX2_read_X2_readTurns rfl rfl rfl (by decide +kernel) ⟨by decide, by decide⟩) (fun H hP => va_recv C.hK hP (ci := 2) (q0 := (4 : Int).toNat) rfl (wo_is (by omega) (by omega) ct_reader)) rfl rfl (Nat.le_of_ble_eq_true rfl) dX2_read_14 ?_
  rintro r14 g14 ⟨rfl, H14⟩
  try dsimp only
  refine v_ifb_eq (tgt := 40) C dX2_read_17 (by decide) (fun c17 => ?_) (fun c17 => ?_)
  · skip
    refine v_iconst C dX2_read_40 ?_
    refine v_istore_n (lv' := [(2, .int (iI (0))), (0, .ref (a (4))), (1, .ref (a (6 + r)))]) C dX2_read_41 (by decide) rfl ?_
    refine v_iload_n C 0 dX2_read_42 rfl ?_
    refine v_if_eq (tgt := 51) C dX2_read_43 (by decide) (by decide) (fun _ => ?_) (fun h9 => absurd h9 (by decide))
    refine v_aload_n C 1 dX2_read_51 rfl ?_
    refine v_getf C (by omega) (by omega) ct_reader rfl 1 (by decide) wf21 hinX2 rfl dX2_read_52 ?_
    exact v_ret_i C rfl dX2_read_55 (by have hq := qB_1 (B := fun x9 => g (16 + r) x9) (L := g (6 + r) 1) (D := Dz) c17; exact ⟨by rw [hq, H14.p]; rfl, by rw [hq]; exact H14⟩)
  · skip
    refine v_aload_n C 0 dX2_read_20 rfl ?_
    refine v_aload_n C 1 dX2_read_21 rfl ?_
    refine v_cV_i C (As := [.ref (a (6 + r))]) (rest := []) (c_X2_readMilks l D yc t1 t2 a A g14 r g ((qT (fun x9 => g (16 + r) x9) (g (6 + r) 1) Dz).2.2) ((qT (fun x9 => g (16 + r) x9) (g (6 + r) 1) Dz).1) (by omega) H14 (by omega) HB (by omega) hT1) (cwV 1 C.hts gX2_read_X2_readMilks rfl rfl rfl (by decide +kernel) ⟨by decide, by decide⟩) (fun H hP => va_recv C.hK hP (ci := 2) (q0 := (4 : Int).toNat) rfl (wo_is (by omega) (by omega) ct_reader)) rfl rfl (Nat.le_of_ble_eq_true rfl) dX2_read_22 ?_
    rintro r22 g22 ⟨rfl, H22⟩
    try dsimp only
    refine v_ifb_eq (tgt := 40) C dX2_read_25 (by decide) (fun c25 => ?_) (fun c25 => ?_)
    · skip
      refine v_iconst C dX2_read_40 ?_
      refine v_istore_n (lv' := [(2, .int (iI (0))), (0, .ref (a (4))), (1, .ref (a (6 + r)))]) C dX2_read_41 (by decide) rfl ?_
      refine v_iload_n C 0 dX2_read_42 rfl ?_
      refine v_if_eq (tgt := 51) C dX2_read_43 (by decide) (by decide) (fun _ => ?_) (fun h9 => absurd h9 (by decide))
      refine v_aload_n C 1 dX2_read_51 rfl ?_
      refine v_getf C (by omega) (by omega) ct_reader rfl 1 (by decide) wf21 hinX2 rfl dX2_read_52 ?_
      exact v_ret_i C rfl dX2_read_55 (by have hq := qB_2 (B := fun x9 => g (16 + r) x9) (L := g (6 + r) 1) (D := Dz) c17 c25; exact ⟨by rw [hq, H22.p]; rfl, by rw [hq]; exact H22⟩)
    · skip
      refine v_aload_n C 0 dX2_read_28 rfl ?_
      refine v_aload_n C 1 dX2_read_29 rfl ?_
      refine v_cV_i C (As := [.ref (a (6 + r))]) (rest := []) (c_X2_readBeasts l D yc t1 t2 a A g22 r g (iD (fun x9 => g (16 + r) x9) (g (6 + r) 1) 109 48 57 14 2 6 (qT (fun x9 => g (16 + r) x9) (g (6 + r) 1) Dz).1 (qT (fun x9 => g (16 + r) x9) (g (6 + r) 1) Dz).2.2) (iP (fun x9 => g (16 + r) x9) (g (6 + r) 1) 109 48 57 6 (qT (fun x9 => g (16 + r) x9) (g (6 + r) 1) Dz).1) (by omega) H22 (by omega) HB (by omega) hM0) (cwV 1 C.hts gX2_read_X2_readBeasts rfl rfl rfl (by decide +kernel) ⟨by decide, by decide⟩) (fun H hP => va_recv C.hK hP (ci := 2) (q0 := (4 : Int).toNat) rfl (wo_is (by omega) (by omega) ct_reader)) rfl rfl (Nat.le_of_ble_eq_true rfl) dX2_read_30 ?_
      rintro r30 g30 ⟨rfl, H30⟩
      try dsimp only
      refine v_ifb_eq (tgt := 40) C dX2_read_33 (by decide) (fun c33 => ?_) (fun c33 => ?_)
      · skip
        refine v_iconst C dX2_read_40 ?_
        refine v_istore_n (lv' := [(2, .int (iI (0))), (0, .ref (a (4))), (1, .ref (a (6 + r)))]) C dX2_read_41 (by decide) rfl ?_
        refine v_iload_n C 0 dX2_read_42 rfl ?_
        refine v_if_eq (tgt := 51) C dX2_read_43 (by decide) (by decide) (fun _ => ?_) (fun h9 => absurd h9 (by decide))
        refine v_aload_n C 1 dX2_read_51 rfl ?_
        refine v_getf C (by omega) (by omega) ct_reader rfl 1 (by decide) wf21 hinX2 rfl dX2_read_52 ?_
        exact v_ret_i C rfl dX2_read_55 (by have hq := qB_3 (B := fun x9 => g (16 + r) x9) (L := g (6 + r) 1) (D := Dz) c17 c25; have h01 := bsL_01 (fun x9 => g (16 + r) x9) (g (6 + r) 1) 8 (iD (fun x9 => g (16 + r) x9) (g (6 + r) 1) 109 48 57 14 2 6 (qT (fun x9 => g (16 + r) x9) (g (6 + r) 1) Dz).1 (qT (fun x9 => g (16 + r) x9) (g (6 + r) 1) Dz).2.2) (sk (fun x9 => g (16 + r) x9) (g (6 + r) 1) (iP (fun x9 => g (16 + r) x9) (g (6 + r) 1) 109 48 57 6 (qT (fun x9 => g (16 + r) x9) (g (6 + r) 1) Dz).1)); exact ⟨by rw [hq, H30.p, if_pos (by omega)], by rw [hq]; exact H30⟩)
      · skip
        refine v_iconst C dX2_read_36 ?_
        refine v_goto (tgt := 41) C dX2_read_37 (by decide) ?_
        refine v_istore_n (lv' := [(2, .int (iI (1))), (0, .ref (a (4))), (1, .ref (a (6 + r)))]) C dX2_read_41 (by decide) rfl ?_
        refine v_iload_n C 0 dX2_read_42 rfl ?_
        refine v_if_eq (tgt := 51) C dX2_read_43 (by decide) (by decide) (fun h9 => absurd h9 (by decide)) (fun _ => ?_)
        refine v_bipush C dX2_read_46 (by decide) ?_
        refine v_goto (tgt := 55) C dX2_read_48 (by decide) ?_
        exact v_ret_i C rfl dX2_read_55 (by have hq := qB_3 (B := fun x9 => g (16 + r) x9) (L := g (6 + r) 1) (D := Dz) c17 c25; exact ⟨by rw [hq, if_neg (by omega)], by rw [hq]; exact H30⟩)
