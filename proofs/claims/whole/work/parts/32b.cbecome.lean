set_option maxRecDepth 100000 in
set_option maxHeartbeats 4000000 in
theorem c_X1_become (l : Launch) (D : va_G) (yc : Nat → ClassId) (t1 t2 : Nat) (a : Int → Nat) (A : Nat → Prop) (g : Mm) (f k : Int) (F : Int → Int) (hf : 0 ≤ f ∧ f < 5) (hk : 0 ≤ k ∧ k < 5) (hfk : ¬ f = k) (HF : FR g k F) (HI : FI F) : Cv l yX1_become wsX1_become { frames := 2, cells := 0, slots := 0, locals := 47 } D yc t1 t2 A (cw a yc) [.ref (a (26 + f)), .ref (a (26 + k))] g (fun g' => FR g' f F ∧ ∀ q, oF f q → g' q = g q) := by
  refine start_v (cc := cX1_become) (nL := 4) (ret := none) (own := RX1) (by decide +kernel) rfl rfl (Nat.le_of_ble_eq_true rfl) ?_
  intro p e s m9 below meth c9 C
  have wf9 : Cond.fieldLink RX1 9 (TX1 0).1 (TX1 0).2.1 (TX1 0).2.2.1 ∈ wsX1_become := by decide +kernel
  have hinX1 : ∀ w ∈ u_ws RX1 TX1 11, w ∈ wsX1_become := by decide +kernel
  have wac50 : Cond.methodLink RX1 50 arraycopyName ∈ wsX1_become := by decide +kernel
  have wacn : Cond.native arraycopyName ∈ wsX1_become := by decide +kernel
  have wacs : Cond.static arraycopyName ∈ wsX1_become := by decide +kernel
  have waci : Cond.initialized "java/lang/System" ∈ wsX1_become := by decide +kernel
  have wf15 : Cond.fieldLink RX1 15 (TX1 1).1 (TX1 1).2.1 (TX1 1).2.2.1 ∈ wsX1_become := by decide +kernel
  have wf31 : Cond.fieldLink RX1 31 (TX1 7).1 (TX1 7).2.1 (TX1 7).2.2.1 ∈ wsX1_become := by decide +kernel
  have wf24 : Cond.fieldLink RX1 24 (TX1 3).1 (TX1 3).2.1 (TX1 3).2.2.1 ∈ wsX1_become := by decide +kernel
  have wf27 : Cond.fieldLink RX1 27 (TX1 4).1 (TX1 4).2.1 (TX1 4).2.2.1 ∈ wsX1_become := by decide +kernel
  have wf35 : Cond.fieldLink RX1 35 (TX1 5).1 (TX1 5).2.1 (TX1 5).2.2.1 ∈ wsX1_become := by decide +kernel
  have wf38 : Cond.fieldLink RX1 38 (TX1 6).1 (TX1 6).2.1 (TX1 6).2.2.1 ∈ wsX1_become := by decide +kernel
  have wf41 : Cond.fieldLink RX1 41 (TX1 8).1 (TX1 8).2.1 (TX1 8).2.2.1 ∈ wsX1_become := by decide +kernel
  have wf44 : Cond.fieldLink RX1 44 (TX1 9).1 (TX1 9).2.1 (TX1 9).2.2.1 ∈ wsX1_become := by decide +kernel
  have wf47 : Cond.fieldLink RX1 47 (TX1 10).1 (TX1 10).2.1 (TX1 10).2.2.1 ∈ wsX1_become := by decide +kernel
  have wf20 : Cond.fieldLink RX1 20 (TX1 2).1 (TX1 2).2.1 (TX1 2).2.2.1 ∈ wsX1_become := by decide +kernel
  have wf56 : Cond.fieldLink RX1 56 (TX0 0).1 (TX0 0).2.1 (TX0 0).2.2.1 ∈ wsX1_become := by decide +kernel
  have hinX0 : ∀ w ∈ u_ws RX0 TX0 5, w ∈ wsX1_become := by decide +kernel
  have wf59 : Cond.fieldLink RX1 59 (TX0 1).1 (TX0 1).2.1 (TX0 1).2.2.1 ∈ wsX1_become := by decide +kernel
  have wf62 : Cond.fieldLink RX1 62 (TX0 2).1 (TX0 2).2.1 (TX0 2).2.2.1 ∈ wsX1_become := by decide +kernel
  have hn := HI.n
  refine v_lv (lv' := [(0, .ref (a (26 + f))), (1, .ref (a (26 + k)))]) rfl ?_
  refine v_aload_n C 1 dX1_become_0 rfl ?_
  refine v_getf C (by omega) (by omega) (ct_farm (by omega) (by omega)) rfl 0 (by decide) wf9 hinX1 rfl dX1_become_1 ?_
  refine v_iconst C dX1_become_4 ?_
  refine v_aload_n C 0 dX1_become_5 rfl ?_
  refine v_getf C (by omega) (by omega) (ct_farm (by omega) (by omega)) rfl 0 (by decide) wf9 hinX1 rfl dX1_become_6 ?_
  refine v_iconst C dX1_become_9 ?_
  refine v_bipush C dX1_become_10 (by decide) ?_
  refine v_acopy C (cta_L a yc) wac50 wacn wacs waci (by omega) (by omega) (by omega) (by omega) (ct_turns (by omega) (by omega)) (ct_turns (by omega) (by omega)) (ct_turns (by omega) (by omega)).symm (by omega) (by omega) (by omega) (by omega) (by omega) (by decide) (by decide) (by decide) (Nat.le_of_ble_eq_true rfl) dX1_become_12 ?_
  refine v_aload_n C 1 dX1_become_15 rfl ?_
  refine v_getf C (by omega) (by omega) (ct_farm (by omega) (by omega)) rfl 1 (by decide) wf15 hinX1 rfl dX1_become_16 ?_
  refine v_iconst C dX1_become_19 ?_
  refine v_aload_n C 0 dX1_become_20 rfl ?_
  refine v_getf C (by omega) (by omega) (ct_farm (by omega) (by omega)) rfl 1 (by decide) wf15 hinX1 rfl dX1_become_21 ?_
  refine v_iconst C dX1_become_24 ?_
  refine v_bipush C dX1_become_25 (by decide) ?_
  refine v_acopy C (cta_L a yc) wac50 wacn wacs waci (by omega) (by omega) (by omega) (by omega) (ct_milks (by omega) (by omega)) (ct_milks (by omega) (by omega)) (ct_milks (by omega) (by omega)).symm (by omega) (by omega) (by omega) (by omega) (by omega) (by decide) (by decide) (by decide) (Nat.le_of_ble_eq_true rfl) dX1_become_27 ?_
  refine v_iconst C dX1_become_30 ?_
  refine v_istore_n (lv' := [(2, .int (iI (0))), (0, .ref (a (26 + f))), (1, .ref (a (26 + k)))]) C dX1_become_31 (by decide) rfl ?_
  refine v_lv (congrArg (fun x9 => ([(2, .int (iI x9)), (0, .ref (a (26 + f))), (1, .ref (a (26 + k)))] : List (Nat × Value))) (show (0) = (((0 : Int))) by first | rfl | omega | (simp; done))) ?_
  refine v_loop2 (fun (h : Mm) (t : Int) => (F 0 - t).toNat) (fun (h : Mm) (t : Int) => 0 ≤ t ∧ t ≤ F 0 ∧ (∀ q, (q < 56 + 6 * f ∨ 62 + 6 * f ≤ q) → h q = (mcp (mcp g (31 + k) 0 (31 + f) 0 8) (36 + k) 0 (36 + f) 0 6) q) ∧ (∀ i, 0 ≤ i → i < t → h (56 + 6 * f + i) 0 = F (20 + 3 * i) ∧ h (56 + 6 * f + i) 1 = F (20 + 3 * i + 1) ∧ h (56 + 6 * f + i) 2 = F (20 + 3 * i + 2) ∧ h (56 + 6 * f + i) 3 = vTo (F (20 + 3 * i)) (F (20 + 3 * i + 1)) 0 ∧ h (56 + 6 * f + i) 4 = vTo (F (20 + 3 * i)) (F (20 + 3 * i + 1)) 1)) (fun (h : Mm) (t : Int) => [(2, .int (iI (t))), (0, .ref (a (26 + f))), (1, .ref (a (26 + k)))]) (fun (h : Mm) (t : Int) => h) ?_ (mcp (mcp g (31 + k) (0) (31 + f) (0) (8)) (36 + k) (0) (36 + f) (0) (6)) 0 ⟨by omega, by omega, fun q _ => rfl, fun i a b => by omega⟩
  intro h t hI32 ih32
  try dsimp only at ih32 ⊢
  refine v_iload_n C 0 dX1_become_32 rfl ?_
  refine v_aload_n C 2 dX1_become_33 rfl ?_
  refine v_getf C (by omega) (by omega) (ct_farm (by omega) (by omega)) rfl 7 (by decide) wf31 hinX1 rfl dX1_become_34 ?_
  refine v_st (st' := [.int (iI (F 0)), .int (iI (t))]) (by rw [hI32.2.2.1 _ (by omega), mcp_o (by omega), mcp_o (by omega), HF.bc]) ?_
  refine v_icmp_ge (tgt := 74) C dX1_become_37 (by decide) (by omega) (by omega) (fun c37 => ?_) (fun c37 => ?_)
  · skip
    refine v_aload_n C 2 dX1_become_74 rfl ?_
    refine v_getf C (by omega) (by omega) (ct_farm (by omega) (by omega)) rfl 3 (by decide) wf24 hinX1 rfl dX1_become_75 ?_
    refine v_iconst C dX1_become_78 ?_
    refine v_aload_n C 1 dX1_become_79 rfl ?_
    refine v_getf C (by omega) (by omega) (ct_farm (by omega) (by omega)) rfl 3 (by decide) wf24 hinX1 rfl dX1_become_80 ?_
    refine v_iconst C dX1_become_83 ?_
    refine v_bipush C dX1_become_84 (by decide) ?_
    refine v_acopy C (cta_L a yc) wac50 wacn wacs waci (by omega) (by omega) (by omega) (by omega) (ct_dk (by omega) (by omega)) (ct_dk (by omega) (by omega)) (ct_dk (by omega) (by omega)).symm (by omega) (by omega) (by omega) (by omega) (by omega) (by decide) (by decide) (by decide) (Nat.le_of_ble_eq_true rfl) dX1_become_86 ?_
    refine v_aload_n C 2 dX1_become_89 rfl ?_
    refine v_getf C (by omega) (by omega) (ct_farm (by omega) (by omega)) rfl 4 (by decide) wf27 hinX1 rfl dX1_become_90 ?_
    refine v_iconst C dX1_become_93 ?_
    refine v_aload_n C 1 dX1_become_94 rfl ?_
    refine v_getf C (by omega) (by omega) (ct_farm (by omega) (by omega)) rfl 4 (by decide) wf27 hinX1 rfl dX1_become_95 ?_
    refine v_iconst C dX1_become_98 ?_
    refine v_bipush C dX1_become_99 (by decide) ?_
    refine v_acopy C (cta_L a yc) wac50 wacn wacs waci (by omega) (by omega) (by omega) (by omega) (ct_dt (by omega) (by omega)) (ct_dt (by omega) (by omega)) (ct_dt (by omega) (by omega)).symm (by omega) (by omega) (by omega) (by omega) (by omega) (by decide) (by decide) (by decide) (Nat.le_of_ble_eq_true rfl) dX1_become_101 ?_
    obtain ⟨h2, hm2, H2⟩ : ∃ h', mcp (mcp h (46 + k) 0 (46 + f) 0 60) (51 + k) 0 (51 + f) 0 60 = h' ∧ bR g h' f k F := ⟨_, rfl, bR_of (by omega) (by omega) hI32.2.2.1 (fun i a b => hI32.2.2.2 i a (by omega))⟩
    refine v_g (g' := h2) hm2 ?_
    refine v_aload_n C 1 dX1_become_104 rfl ?_
    refine v_aload_n C 2 dX1_become_105 rfl ?_
    refine v_getf C (by omega) (by omega) (ct_farm (by omega) (by omega)) rfl 5 (by decide) wf35 hinX1 rfl dX1_become_106 ?_
    refine v_st (st' := [.int (iI (F 1)), .ref (a (26 + f))]) (by (try rw [H2.1 _ (by omega) (by omega) (by omega) (by omega) (by omega)]); first | rw [HF.tc] | (repeat rw [mu_ne (by omega)]; rw [H2.1 _ (by omega) (by omega) (by omega) (by omega) (by omega), HF.tc])) ?_
    refine v_puti C (cta_L a yc) (by omega) (by omega) (ct_farm (by omega) (by omega)) rfl 5 (by decide) wf35 hinX1 tyX1 tyX1_ok nmX1 rfl (by decide +kernel) (by simp) (cs_farm_5 (by omega) (by omega)) dX1_become_109 ?_
    refine v_g (g' := (mu h2 (26 + f) (5) (F 1))) rfl ?_
    refine v_aload_n C 1 dX1_become_112 rfl ?_
    refine v_aload_n C 2 dX1_become_113 rfl ?_
    refine v_getf C (by omega) (by omega) (ct_farm (by omega) (by omega)) rfl 6 (by decide) wf38 hinX1 rfl dX1_become_114 ?_
    refine v_st (st' := [.int (iI (h2 (26 + k) (6))), .ref (a (26 + f))]) (by rw [mu_ne (show 26 + k ≠ 26 + f by omega)]) ?_
    refine v_st (st' := [.int (iI (F 2)), .ref (a (26 + f))]) (by (try rw [H2.1 _ (by omega) (by omega) (by omega) (by omega) (by omega)]); first | rw [HF.mc] | (repeat rw [mu_ne (by omega)]; rw [H2.1 _ (by omega) (by omega) (by omega) (by omega) (by omega), HF.mc])) ?_
    refine v_puti C (cta_L a yc) (by omega) (by omega) (ct_farm (by omega) (by omega)) rfl 6 (by decide) wf38 hinX1 tyX1 tyX1_ok nmX1 rfl (by decide +kernel) (by simp) (cs_farm_6 (by omega) (by omega)) dX1_become_117 ?_
    refine v_g (g' := (mu (mu h2 (26 + f) (5) (F 1)) (26 + f) (6) (F 2))) rfl ?_
    refine v_aload_n C 1 dX1_become_120 rfl ?_
    refine v_aload_n C 2 dX1_become_121 rfl ?_
    refine v_getf C (by omega) (by omega) (ct_farm (by omega) (by omega)) rfl 7 (by decide) wf31 hinX1 rfl dX1_become_122 ?_
    refine v_st (st' := [.int (iI (h2 (26 + k) (7))), .ref (a (26 + f))]) (by rw [mu_ne (show 26 + k ≠ 26 + f by omega), mu_ne (show 26 + k ≠ 26 + f by omega)]) ?_
    refine v_st (st' := [.int (iI (F 0)), .ref (a (26 + f))]) (by (try rw [H2.1 _ (by omega) (by omega) (by omega) (by omega) (by omega)]); first | rw [HF.bc] | (repeat rw [mu_ne (by omega)]; rw [H2.1 _ (by omega) (by omega) (by omega) (by omega) (by omega), HF.bc])) ?_
    refine v_puti C (cta_L a yc) (by omega) (by omega) (ct_farm (by omega) (by omega)) rfl 7 (by decide) wf31 hinX1 tyX1 tyX1_ok nmX1 rfl (by decide +kernel) (by simp) (cs_farm_7 (by omega) (by omega)) dX1_become_125 ?_
    refine v_g (g' := (mu (mu (mu h2 (26 + f) (5) (F 1)) (26 + f) (6) (F 2)) (26 + f) (7) (F 0))) rfl ?_
    refine v_aload_n C 1 dX1_become_128 rfl ?_
    refine v_aload_n C 2 dX1_become_129 rfl ?_
    refine v_getf C (by omega) (by omega) (ct_farm (by omega) (by omega)) rfl 8 (by decide) wf41 hinX1 rfl dX1_become_130 ?_
    refine v_st (st' := [.int (iI (h2 (26 + k) (8))), .ref (a (26 + f))]) (by rw [mu_ne (show 26 + k ≠ 26 + f by omega), mu_ne (show 26 + k ≠ 26 + f by omega), mu_ne (show 26 + k ≠ 26 + f by omega)]) ?_
    refine v_st (st' := [.int (iI (F 4)), .ref (a (26 + f))]) (by (try rw [H2.1 _ (by omega) (by omega) (by omega) (by omega) (by omega)]); first | rw [HF.dc] | (repeat rw [mu_ne (by omega)]; rw [H2.1 _ (by omega) (by omega) (by omega) (by omega) (by omega), HF.dc])) ?_
    refine v_puti C (cta_L a yc) (by omega) (by omega) (ct_farm (by omega) (by omega)) rfl 8 (by decide) wf41 hinX1 tyX1 tyX1_ok nmX1 rfl (by decide +kernel) (by simp) (cs_farm_8 (by omega) (by omega)) dX1_become_133 ?_
    refine v_g (g' := (mu (mu (mu (mu h2 (26 + f) (5) (F 1)) (26 + f) (6) (F 2)) (26 + f) (7) (F 0)) (26 + f) (8) (F 4))) rfl ?_
    refine v_aload_n C 1 dX1_become_136 rfl ?_
    refine v_aload_n C 2 dX1_become_137 rfl ?_
    refine v_getf C (by omega) (by omega) (ct_farm (by omega) (by omega)) rfl 9 (by decide) wf44 hinX1 rfl dX1_become_138 ?_
    refine v_st (st' := [.int (iI (h2 (26 + k) (9))), .ref (a (26 + f))]) (by rw [mu_ne (show 26 + k ≠ 26 + f by omega), mu_ne (show 26 + k ≠ 26 + f by omega), mu_ne (show 26 + k ≠ 26 + f by omega), mu_ne (show 26 + k ≠ 26 + f by omega)]) ?_
    refine v_st (st' := [.int (iI (F 3)), .ref (a (26 + f))]) (by (try rw [H2.1 _ (by omega) (by omega) (by omega) (by omega) (by omega)]); first | rw [HF.td] | (repeat rw [mu_ne (by omega)]; rw [H2.1 _ (by omega) (by omega) (by omega) (by omega) (by omega), HF.td])) ?_
    refine v_puti C (cta_L a yc) (by omega) (by omega) (ct_farm (by omega) (by omega)) rfl 9 (by decide) wf44 hinX1 tyX1 tyX1_ok nmX1 rfl (by decide +kernel) (by simp) (cs_farm_9 (by omega) (by omega)) dX1_become_141 ?_
    refine v_g (g' := (mu (mu (mu (mu (mu h2 (26 + f) (5) (F 1)) (26 + f) (6) (F 2)) (26 + f) (7) (F 0)) (26 + f) (8) (F 4)) (26 + f) (9) (F 3))) rfl ?_
    refine v_aload_n C 1 dX1_become_144 rfl ?_
    refine v_aload_n C 2 dX1_become_145 rfl ?_
    refine v_getf C (by omega) (by omega) (ct_farm (by omega) (by omega)) rfl 10 (by decide) wf47 hinX1 rfl dX1_become_146 ?_
    refine v_st (st' := [.int (iI (h2 (26 + k) (10))), .ref (a (26 + f))]) (by rw [mu_ne (show 26 + k ≠ 26 + f by omega), mu_ne (show 26 + k ≠ 26 + f by omega), mu_ne (show 26 + k ≠ 26 + f by omega), mu_ne (show 26 + k ≠ 26 + f by omega), mu_ne (show 26 + k ≠ 26 + f by omega)]) ?_
    refine v_st (st' := [.int (iI (F 5)), .ref (a (26 + f))]) (by (try rw [H2.1 _ (by omega) (by omega) (by omega) (by omega) (by omega)]); first | rw [HF.pd] | (repeat rw [mu_ne (by omega)]; rw [H2.1 _ (by omega) (by omega) (by omega) (by omega) (by omega), HF.pd])) ?_
    refine v_puti C (cta_L a yc) (by omega) (by omega) (ct_farm (by omega) (by omega)) rfl 10 (by decide) wf47 hinX1 tyX1 tyX1_ok nmX1 rfl (by decide +kernel) (by simp) (cs_farm_10 (by omega) (by omega)) dX1_become_149 ?_
    refine v_g (g' := (mu (mu (mu (mu (mu (mu h2 (26 + f) (5) (F 1)) (26 + f) (6) (F 2)) (26 + f) (7) (F 0)) (26 + f) (8) (F 4)) (26 + f) (9) (F 3)) (26 + f) (10) (F 5))) rfl ?_
    exact v_ret_v C rfl dX1_become_152 (bR_fin hf hk hfk HF HI H2)
  · skip
    have hb := HI.b (i := t) (by omega) (by omega)
    refine v_aload_n C 2 dX1_become_40 rfl ?_
    refine v_getf C (by omega) (by omega) (ct_farm (by omega) (by omega)) rfl 2 (by decide) wf20 hinX1 rfl dX1_become_41 ?_
    refine v_iload_n C 0 dX1_become_44 rfl ?_
    refine v_aaload (f := fun j => 56 + 6 * k + j) C (by omega) (by omega) 2 rfl (ct_beastsA (by omega) (by omega)) (by omega) (by omega) (by decide) dX1_become_45 ?_
    refine v_astore_n (lv' := [(3, .ref (a (56 + 6 * k + t))), (2, .int (iI (t))), (0, .ref (a (26 + f))), (1, .ref (a (26 + k)))]) C dX1_become_46 (by decide) rfl ?_
    refine v_aload_n C 2 dX1_become_47 rfl ?_
    refine v_getf C (by omega) (by omega) (ct_farm (by omega) (by omega)) rfl 2 (by decide) wf20 hinX1 rfl dX1_become_48 ?_
    refine v_iload_n C 1 dX1_become_51 rfl ?_
    refine v_aaload (f := fun j => 56 + 6 * f + j) C (by omega) (by omega) 2 rfl (ct_beastsA (by omega) (by omega)) (by omega) (by omega) (by decide) dX1_become_52 ?_
    refine v_aload_n C 0 dX1_become_53 rfl ?_
    refine v_getf C (by omega) (by omega) (ct_beast (by omega) (by omega) (by omega) (by omega)) rfl 0 (by decide) wf56 hinX0 rfl dX1_become_54 ?_
    refine v_st (st' := [.int (iI (F (20 + 3 * t))), .ref (a (56 + 6 * f + t))]) (by rw [hI32.2.2.1 _ (by omega), mcp_o (by omega), mcp_o (by omega), (HF.bs (i := t) (by omega) (by omega)).1]) ?_
    refine v_aload_n C 0 dX1_become_57 rfl ?_
    refine v_getf C (by omega) (by omega) (ct_beast (by omega) (by omega) (by omega) (by omega)) rfl 1 (by decide) wf59 hinX0 rfl dX1_become_58 ?_
    refine v_st (st' := [.int (iI (F (20 + 3 * t + 1))), .int (iI (F (20 + 3 * t))), .ref (a (56 + 6 * f + t))]) (by rw [hI32.2.2.1 _ (by omega), mcp_o (by omega), mcp_o (by omega), (HF.bs (i := t) (by omega) (by omega)).2.1]) ?_
    refine v_aload_n C 0 dX1_become_61 rfl ?_
    refine v_getf C (by omega) (by omega) (ct_beast (by omega) (by omega) (by omega) (by omega)) rfl 2 (by decide) wf62 hinX0 rfl dX1_become_62 ?_
    refine v_st (st' := [.int (iI (F (20 + 3 * t + 2))), .int (iI (F (20 + 3 * t + 1))), .int (iI (F (20 + 3 * t))), .ref (a (56 + 6 * f + t))]) (by rw [hI32.2.2.1 _ (by omega), mcp_o (by omega), mcp_o (by omega), (HF.bs (i := t) (by omega) (by omega)).2.2.1]) ?_
    refine v_cV_v C (As := [.int (iI (F (20 + 3 * t))), .int (iI (F (20 + 3 * t + 1))), .int (iI (F (20 + 3 * t + 2)))]) (rest := []) (c_X0_become l D yc t1 t2 a A h f t (F (20 + 3 * t)) (F (20 + 3 * t + 1)) (F (20 + 3 * t + 2)) (by omega) (by omega) hb.1 hb.2.1) (cwV 3 C.hts gX1_become_X0_become rfl rfl rfl (by decide +kernel) ⟨by decide, by decide⟩) (fun H hP => va_recv C.hK hP (ci := 0) (q0 := (56 + 6 * f + t : Int).toNat) rfl (wo_is (by omega) (by omega) (ct_beast (by omega) (by omega) (by omega) (by omega)))) rfl rfl (Nat.le_of_ble_eq_true rfl) dX1_become_65 ?_
    intro g9 h9
    rw [h9]
    clear h9 g9
    try dsimp only
    refine v_iinc (z' := t + 1) (lv' := [(2, .int (iI (t + 1))), (3, .ref (a (56 + 6 * k + t))), (0, .ref (a (26 + f))), (1, .ref (a (26 + k)))]) C 1 dX1_become_68 rfl (by omega) (by decide) rfl ?_
    refine v_goto (tgt := 32) C dX1_become_71 (by decide) ?_
    refine v_sub (lv' := [(2, .int (iI (t + 1))), (0, .ref (a (26 + f))), (1, .ref (a (26 + k)))]) [0, 2, 3] rfl ?_
    exact ih32 (((setB h (56 + 6 * f + t) (F (20 + 3 * t)) (F (20 + 3 * t + 1)) (F (20 + 3 * t + 2))))) (t + 1) ⟨by omega, by omega, fun q hq => by rw [setB_o (by omega)]; exact hI32.2.2.1 q hq, fun i a b => by
      by_cases hi : i = t
      · subst hi; unfold setB; simp
      · rw [setB_o (by omega)]; exact hI32.2.2.2 i a (by omega)⟩ (by omega)
