set_option maxRecDepth 100000 in
set_option maxHeartbeats 4000000 in
theorem c_X1_farmOn_x (l : Launch) (D : va_G) (yc : Nat → ClassId) (t1 t2 : Nat) (a : Int → Nat) (A : Nat → Prop) (g : Mm) (f d : Int) (F : Int → Int) (hf : 0 ≤ f ∧ f < 5) (HF : FR g f F) (HI : FI F) (ht : 0 < F 1) (hd : 0 ≤ d ∧ d < 2147483648) : Ci l yX1_farmOn wsX1_farmOn { frames := 0, cells := 0, slots := 0, locals := 0 } D yc t1 t2 A (xw a yc) [.ref (a (26 + f)), .int (iI (d))] g (fun r9 g' => r9 = (iI (fOn F d)) ∧ g' = g) := by
  refine start_i (cc := cX1_farmOn) (nL := 2) (ret := (some .int)) (own := RX1) (by decide +kernel) rfl rfl (Nat.le_of_ble_eq_true rfl) ?_
  intro p e s m9 below meth c9 C
  have wf35 : Cond.fieldLink RX1 35 (TX1 5).1 (TX1 5).2.1 (TX1 5).2.2.1 ∈ wsX1_farmOn := by decide +kernel
  have hinX1 : ∀ w ∈ u_ws RX1 TX1 11, w ∈ wsX1_farmOn := by decide +kernel
  have wf9 : Cond.fieldLink RX1 9 (TX1 0).1 (TX1 0).2.1 (TX1 0).2.2.1 ∈ wsX1_farmOn := by decide +kernel
  have hn := HI.n
  have hm := emd (d := d) ht
  refine v_lv (lv' := [(0, .ref (a (26 + f))), (1, .int (iI (d)))]) rfl ?_
  refine v_iload_n C 1 dX1_farmOn_0 rfl ?_
  refine v_if_lt (tgt := 12) C dX1_farmOn_1 (by decide) (by omega) (fun c1 => ?_) (fun c1 => ?_)
  · exact absurd c1 (by omega)
  · skip
    refine v_aload_n C 0 dX1_farmOn_4 rfl ?_
    refine v_getf C (by omega) (by omega) (cx_farm (by omega) (by omega)) rfl 5 (by decide) wf35 hinX1 rfl dX1_farmOn_5 ?_
    refine v_st (st' := [.int (iI (F 1))]) (by rw [HF.tc]) ?_
    refine v_iconst C dX1_farmOn_8 ?_
    refine v_icmp_ge (tgt := 14) C dX1_farmOn_9 (by decide) (by omega) (by omega) (fun c9 => ?_) (fun c9 => ?_)
    · skip
      refine v_aload_n C 0 dX1_farmOn_14 rfl ?_
      refine v_getf C (by omega) (by omega) (cx_farm (by omega) (by omega)) rfl 0 (by decide) wf9 hinX1 rfl dX1_farmOn_15 ?_
      refine v_iload_n C 1 dX1_farmOn_18 rfl ?_
      refine v_aload_n C 0 dX1_farmOn_19 rfl ?_
      refine v_getf C (by omega) (by omega) (cx_farm (by omega) (by omega)) rfl 5 (by decide) wf35 hinX1 rfl dX1_farmOn_20 ?_
      refine v_st (st' := [.int (iI (F 1)), .int (iI (d)), .ref (a (31 + f))]) (by rw [HF.tc]) ?_
      refine v_irem C dX1_farmOn_23 (by omega) (by omega) (by omega) (by omega) ?_
      refine v_iaload C (by omega) (by omega) (cx_turns (by omega) (by omega)) (by omega) (by omega) (by decide) dX1_farmOn_24 ?_
      refine v_st (st' := [.int (iI (F (6 + d % F 1)))]) (by rw [HF.tn hm.1 hm.2]) ?_
      exact v_ret_i C rfl dX1_farmOn_25 ⟨rfl, rfl⟩
    · exact absurd c9 (by omega)

set_option maxRecDepth 100000 in
set_option maxHeartbeats 4000000 in
theorem c_X1_milkOn_x (l : Launch) (D : va_G) (yc : Nat → ClassId) (t1 t2 : Nat) (a : Int → Nat) (A : Nat → Prop) (g : Mm) (f d : Int) (F : Int → Int) (hf : 0 ≤ f ∧ f < 5) (HF : FR g f F) (HI : FI F) (ht : 0 < F 2) (hd : 0 ≤ d ∧ d < 2147483648) : Ci l yX1_milkOn wsX1_milkOn { frames := 0, cells := 0, slots := 0, locals := 0 } D yc t1 t2 A (xw a yc) [.ref (a (26 + f)), .int (iI (d))] g (fun r9 g' => r9 = (iI (mOn F d)) ∧ g' = g) := by
  refine start_i (cc := cX1_milkOn) (nL := 2) (ret := (some .int)) (own := RX1) (by decide +kernel) rfl rfl (Nat.le_of_ble_eq_true rfl) ?_
  intro p e s m9 below meth c9 C
  have wf38 : Cond.fieldLink RX1 38 (TX1 6).1 (TX1 6).2.1 (TX1 6).2.2.1 ∈ wsX1_milkOn := by decide +kernel
  have hinX1 : ∀ w ∈ u_ws RX1 TX1 11, w ∈ wsX1_milkOn := by decide +kernel
  have wf15 : Cond.fieldLink RX1 15 (TX1 1).1 (TX1 1).2.1 (TX1 1).2.2.1 ∈ wsX1_milkOn := by decide +kernel
  have hn := HI.n
  have hm := emd (d := d) ht
  refine v_lv (lv' := [(0, .ref (a (26 + f))), (1, .int (iI (d)))]) rfl ?_
  refine v_iload_n C 1 dX1_milkOn_0 rfl ?_
  refine v_if_lt (tgt := 12) C dX1_milkOn_1 (by decide) (by omega) (fun c1 => ?_) (fun c1 => ?_)
  · exact absurd c1 (by omega)
  · skip
    refine v_aload_n C 0 dX1_milkOn_4 rfl ?_
    refine v_getf C (by omega) (by omega) (cx_farm (by omega) (by omega)) rfl 6 (by decide) wf38 hinX1 rfl dX1_milkOn_5 ?_
    refine v_st (st' := [.int (iI (F 2))]) (by rw [HF.mc]) ?_
    refine v_iconst C dX1_milkOn_8 ?_
    refine v_icmp_ge (tgt := 14) C dX1_milkOn_9 (by decide) (by omega) (by omega) (fun c9 => ?_) (fun c9 => ?_)
    · skip
      refine v_aload_n C 0 dX1_milkOn_14 rfl ?_
      refine v_getf C (by omega) (by omega) (cx_farm (by omega) (by omega)) rfl 1 (by decide) wf15 hinX1 rfl dX1_milkOn_15 ?_
      refine v_iload_n C 1 dX1_milkOn_18 rfl ?_
      refine v_aload_n C 0 dX1_milkOn_19 rfl ?_
      refine v_getf C (by omega) (by omega) (cx_farm (by omega) (by omega)) rfl 6 (by decide) wf38 hinX1 rfl dX1_milkOn_20 ?_
      refine v_st (st' := [.int (iI (F 2)), .int (iI (d)), .ref (a (36 + f))]) (by rw [HF.mc]) ?_
      refine v_irem C dX1_milkOn_23 (by omega) (by omega) (by omega) (by omega) ?_
      refine v_iaload C (by omega) (by omega) (cx_milks (by omega) (by omega)) (by omega) (by omega) (by decide) dX1_milkOn_24 ?_
      refine v_st (st' := [.int (iI (F (14 + d % F 2)))]) (by rw [HF.mk hm.1 hm.2]) ?_
      exact v_ret_i C rfl dX1_milkOn_25 ⟨rfl, rfl⟩
    · exact absurd c9 (by omega)

set_option maxRecDepth 100000 in
set_option maxHeartbeats 4000000 in
theorem c_X1_leadOn_x (l : Launch) (D : va_G) (yc : Nat → ClassId) (t1 t2 : Nat) (a : Int → Nat) (A : Nat → Prop) (g : Mm) (f d : Int) (F : Int → Int) (hf : 0 ≤ f ∧ f < 5) (HF : FR g f F) (HI : FI F) (ht : 0 < F 1 ∧ 0 < F 2) (hd : 0 ≤ d ∧ d < 2147483648) : Ci l yX1_leadOn wsX1_leadOn { frames := 1, cells := 0, slots := 0, locals := 21 } D yc t1 t2 A (xw a yc) [.ref (a (26 + f)), .int (iI (d))] g (fun r9 g' => r9 = (iI (if fOn F d = 0 then mOn F d else -mOn F d)) ∧ g' = g) := by
  refine start_i (cc := cX1_leadOn) (nL := 2) (ret := (some .int)) (own := RX1) (by decide +kernel) rfl rfl (Nat.le_of_ble_eq_true rfl) ?_
  intro p e s m9 below meth c9 C
  have hn := HI.n
  have h01 := fOn01 HI ht.1 d
  refine v_lv (lv' := [(0, .ref (a (26 + f))), (1, .int (iI (d)))]) rfl ?_
  refine v_aload_n C 0 dX1_leadOn_0 rfl ?_
  refine v_iload_n C 1 dX1_leadOn_1 rfl ?_
  refine v_cV_i C (As := [.int (iI (d))]) (rest := []) (c_X1_farmOn_x l D yc t1 t2 a A g f d F (by omega) HF HI (by omega) (by omega)) (cwV 1 C.hts gX1_leadOn_X1_farmOn rfl rfl rfl (by decide +kernel) ⟨by decide, by decide⟩) (fun H hP => va_recv C.hK hP (ci := 1) (q0 := (26 + f : Int).toNat) rfl (wo_is (by omega) (by omega) (cx_farm (by omega) (by omega)))) rfl rfl (Nat.le_of_ble_eq_true rfl) dX1_leadOn_2 ?_
  intro r9 g9 h9
  rw [h9.1, h9.2]
  clear h9 g9 r9
  try dsimp only
  refine v_if_ne (tgt := 16) C dX1_leadOn_5 (by decide) (by omega) (fun c5 => ?_) (fun c5 => ?_)
  · skip
    refine v_aload_n C 0 dX1_leadOn_16 rfl ?_
    refine v_iload_n C 1 dX1_leadOn_17 rfl ?_
    refine v_cV_i C (As := [.int (iI (d))]) (rest := []) (c_X1_milkOn_x l D yc t1 t2 a A g f d F (by omega) HF HI (by omega) (by omega)) (cwV 1 C.hts gX1_leadOn_X1_milkOn rfl rfl rfl (by decide +kernel) ⟨by decide, by decide⟩) (fun H hP => va_recv C.hK hP (ci := 1) (q0 := (26 + f : Int).toNat) rfl (wo_is (by omega) (by omega) (cx_farm (by omega) (by omega)))) rfl rfl (Nat.le_of_ble_eq_true rfl) dX1_leadOn_18 ?_
    intro r9 g9 h9
    rw [h9.1, h9.2]
    clear h9 g9 r9
    try dsimp only
    refine v_ineg C dX1_leadOn_21 ?_
    exact v_ret_i C rfl dX1_leadOn_22 ⟨(by simp [*]), rfl⟩
  · skip
    refine v_aload_n C 0 dX1_leadOn_8 rfl ?_
    refine v_iload_n C 1 dX1_leadOn_9 rfl ?_
    refine v_cV_i C (As := [.int (iI (d))]) (rest := []) (c_X1_milkOn_x l D yc t1 t2 a A g f d F (by omega) HF HI (by omega) (by omega)) (cwV 1 C.hts gX1_leadOn_X1_milkOn rfl rfl rfl (by decide +kernel) ⟨by decide, by decide⟩) (fun H hP => va_recv C.hK hP (ci := 1) (q0 := (26 + f : Int).toNat) rfl (wo_is (by omega) (by omega) (cx_farm (by omega) (by omega)))) rfl rfl (Nat.le_of_ble_eq_true rfl) dX1_leadOn_10 ?_
    intro r9 g9 h9
    rw [h9.1, h9.2]
    clear h9 g9 r9
    try dsimp only
    refine v_goto (tgt := 22) C dX1_leadOn_13 (by decide) ?_
    exact v_ret_i C rfl dX1_leadOn_22 ⟨(by simp [*]), rfl⟩

set_option maxRecDepth 100000 in
set_option maxHeartbeats 4000000 in
theorem c_X4_leadIfChanged (l : Launch) (D : va_G) (yc : Nat → ClassId) (t1 t2 : Nat) (a : Int → Nat) (A : Nat → Prop) (g : Mm) (se : Int) (hs : 0 ≤ se ∧ se < 256) : Ci l yX4_leadIfChanged wsX4_leadIfChanged { frames := 0, cells := 0, slots := 0, locals := 0 } D yc t1 t2 A (xw a yc) [.ref (a (86)), .int (iI (se))] g (fun r9 g' => r9 = (iI (sI (fun k9 => if bt se k9 = 0 then g 86 k9 else -g 86 k9) 8)) ∧ g' = g) := by
  refine start_i (cc := cX4_leadIfChanged) (nL := 4) (ret := (some .int)) (own := RX4) (by decide +kernel) rfl rfl (Nat.le_of_ble_eq_true rfl) ?_
  intro p e s m9 below meth c9 C
  refine v_lv (lv' := [(0, .ref (a (86))), (1, .int (iI (se)))]) rfl ?_
  refine v_iconst C dX4_leadIfChanged_0 ?_
  refine v_istore_n (lv' := [(2, .int (iI (0))), (0, .ref (a (86))), (1, .int (iI (se)))]) C dX4_leadIfChanged_1 (by decide) rfl ?_
  refine v_iconst C dX4_leadIfChanged_2 ?_
  refine v_istore_n (lv' := [(3, .int (iI (0))), (2, .int (iI (0))), (0, .ref (a (86))), (1, .int (iI (se)))]) C dX4_leadIfChanged_3 (by decide) rfl ?_
  refine v_lv (congrArg (fun x9 => ([(3, .int (iI x9)), (2, .int (iI (0))), (0, .ref (a (86))), (1, .int (iI (se)))] : List (Nat × Value))) (show (0) = (((0 : Int))) by first | rfl | omega | (simp; done))) ?_
  refine v_lv (congrArg (fun x9 => ([(3, .int (iI (((0 : Int))))), (2, .int (iI x9)), (0, .ref (a (86))), (1, .int (iI (se)))] : List (Nat × Value))) (show (0) = (sI (fun k9 => if bt se k9 = 0 then g 86 k9 else -g 86 k9) ((0 : Int))) by first | rfl | omega | (simp; done))) ?_
  refine v_loop1 (fun (t : Int) => (8 - t).toNat) (fun (t : Int) => 0 ≤ t ∧ t ≤ 8) (fun (t : Int) => [(3, .int (iI (t))), (2, .int (iI (sI (fun k9 => if bt se k9 = 0 then g 86 k9 else -g 86 k9) t))), (0, .ref (a (86))), (1, .int (iI (se)))]) (fun (t : Int) => g) ?_ 0 (by omega)
  intro t hI4 ih4
  try dsimp only at ih4 ⊢
  refine v_iload_n C 0 dX4_leadIfChanged_4 rfl ?_
  refine v_aload_n C 2 dX4_leadIfChanged_5 rfl ?_
  refine v_alen C (by omega) (by omega) 0 rfl cx_tmp dX4_leadIfChanged_6 ?_
  refine v_st (st' := [.int (iI (8)), .int (iI (t))]) rfl ?_
  refine v_icmp_ge (tgt := 37) C dX4_leadIfChanged_7 (by decide) (by omega) (by omega) (fun c7 => ?_) (fun c7 => ?_)
  · skip
    refine v_iload_n C 1 dX4_leadIfChanged_37 rfl ?_
    exact v_ret_i C rfl dX4_leadIfChanged_38 ⟨(by rw [show t = 8 by omega]), rfl⟩
  · skip
    have hb01 := bt01 se t
    refine v_iload_n C 1 dX4_leadIfChanged_10 rfl ?_
    refine v_iload_n C 3 dX4_leadIfChanged_11 rfl ?_
    refine v_iload_n C 0 dX4_leadIfChanged_12 rfl ?_
    refine v_ishr (z := (iI (se / pw t))) C dX4_leadIfChanged_13 (shr_bt (by omega) (by omega) (by omega) (by omega)) ?_
    refine v_iconst C dX4_leadIfChanged_14 ?_
    refine v_iand (z := (iI (bt se t))) C dX4_leadIfChanged_15 (and_1 (Int.ediv_nonneg (by omega) (by have := pw_pos t; omega)) (Int.lt_of_le_of_lt (Int.ediv_le_self _ (by omega)) (by omega))) ?_
    refine v_cut1 29 (fun (v29 : Int) => v29 = if bt se t = 0 then g 86 t else -g 86 t) (fun (v29 : Int) => [(3, .int (iI (t))), (2, .int (iI (sI (fun k9 => if bt se k9 = 0 then g 86 k9 else -g 86 k9) t))), (0, .ref (a (86))), (1, .int (iI (se)))]) (fun (v29 : Int) => [.int (iI (v29)), .int (iI (sI (fun k9 => if bt se k9 = 0 then g 86 k9 else -g 86 k9) t))]) (fun (v29 : Int) => g) ?_ ?_
    · intro v29 hj29
      try dsimp only
      refine v_iadd C dX4_leadIfChanged_29 ?_
      refine v_istore_n (lv' := [(2, .int (iI ((sI (fun k9 => if bt se k9 = 0 then g 86 k9 else -g 86 k9) t) + v29))), (3, .int (iI (t))), (0, .ref (a (86))), (1, .int (iI (se)))]) C dX4_leadIfChanged_30 (by decide) rfl ?_
      refine v_iinc (z' := t + 1) (lv' := [(3, .int (iI (t + 1))), (2, .int (iI ((sI (fun k9 => if bt se k9 = 0 then g 86 k9 else -g 86 k9) t) + v29))), (0, .ref (a (86))), (1, .int (iI (se)))]) C 1 dX4_leadIfChanged_31 rfl (by omega) (by decide) rfl ?_
      refine v_goto (tgt := 4) C dX4_leadIfChanged_34 (by decide) ?_
      refine v_lv (congrArg (fun x9 => ([(3, .int (iI (t + 1))), (2, .int (iI x9)), (0, .ref (a (86))), (1, .int (iI (se)))] : List (Nat × Value))) (show ((sI (fun k9 => if bt se k9 = 0 then g 86 k9 else -g 86 k9) t) + v29) = (sI (fun k9 => if bt se k9 = 0 then g 86 k9 else -g 86 k9) (t + 1)) by first | rfl | (rw [sI_s _ (by omega), hj29]))) ?_
      exact ih4 (t + 1) (by omega) (by omega)
    · intro jn29
      try dsimp only at jn29
      refine v_if_ne (tgt := 25) C dX4_leadIfChanged_16 (by decide) (by omega) (fun c16 => ?_) (fun c16 => ?_)
      · skip
        refine v_aload_n C 2 dX4_leadIfChanged_25 rfl ?_
        refine v_iload_n C 0 dX4_leadIfChanged_26 rfl ?_
        refine v_iaload C (by omega) (by omega) cx_tmp (by omega) (by omega) (by decide) dX4_leadIfChanged_27 ?_
        refine v_ineg C dX4_leadIfChanged_28 ?_
        exact jn29 (-(g (86) (t))) (by first | rw [if_pos (by omega)] | rw [if_neg (by omega)])
      · skip
        refine v_aload_n C 2 dX4_leadIfChanged_19 rfl ?_
        refine v_iload_n C 0 dX4_leadIfChanged_20 rfl ?_
        refine v_iaload C (by omega) (by omega) cx_tmp (by omega) (by omega) (by decide) dX4_leadIfChanged_21 ?_
        refine v_goto (tgt := 29) C dX4_leadIfChanged_22 (by decide) ?_
        exact jn29 (g (86) (t)) (by first | rw [if_pos (by omega)] | rw [if_neg (by omega)])

set_option maxRecDepth 100000 in
set_option maxHeartbeats 4000000 in
theorem c_X4_leadsByTurn (l : Launch) (D : va_G) (yc : Nat → ClassId) (t1 t2 : Nat) (a : Int → Nat) (A : Nat → Prop) (g : Mm) (F : Int → Int) (HF : FR g 0 F) (HI : FI F) (ht : 0 < F 1 ∧ 0 < F 2) : Met l yX4_leadsByTurn wsX4_leadsByTurn { frames := 2, cells := 1, slots := 8, locals := 42 } (va_Pc [.ref (a (0))] (WA D yc t1 t2 A a g)) (va_Qr (fun g' => g' = (ldm g F 24)) (BX D yc A a) A) 1 8 A := by
  refine start_r (cc := cX4_leadsByTurn) (nL := 3) (ret := (some (.array .int))) (own := RX4) (by decide +kernel) rfl rfl (Nat.le_of_ble_eq_true rfl) ?_
  intro p e s m9 below meth c9 C hA
  have wna : Cond.arrayClass .int ∈ wsX4_leadsByTurn := by decide +kernel
  have wf21 : Cond.fieldLink RX4 21 (TX4 2).1 (TX4 2).2.1 (TX4 2).2.2.1 ∈ wsX4_leadsByTurn := by decide +kernel
  have hinX4 : ∀ w ∈ u_ws RX4 TX4 10, w ∈ wsX4_leadsByTurn := by decide +kernel
  have wf145 : Cond.fieldLink RX4 145 (TX1 5).1 (TX1 5).2.1 (TX1 5).2.2.1 ∈ wsX4_leadsByTurn := by decide +kernel
  have hinX1 : ∀ w ∈ u_ws RX1 TX1 11, w ∈ wsX4_leadsByTurn := by decide +kernel
  have hn := HI.n
  refine x_lv (lv' := [(0, .ref (a (0)))]) rfl ?_
  refine x_bipush C dX4_leadsByTurn_0 (by decide) ?_
  refine x_new8 C hA wna (by decide) (by decide) dX4_leadsByTurn_2 (fun a2 e2 C => ?_)
  refine x_lv (lv' := [(0, .ref (a2 (0)))]) (by rw [e2 (0) (by decide) (by decide)]) ?_
  refine x_g (g' := (ldm g F 0)) (ldm_0 g F) ?_
  refine x_astore_n (lv' := [(1, .ref (a2 (86))), (0, .ref (a2 (0)))]) C dX4_leadsByTurn_4 (by decide) rfl ?_
  refine x_aload_n C 1 dX4_leadsByTurn_5 rfl ?_
  refine x_getf C (by omega) (by omega) cx_cow rfl 2 (by decide) wf21 hinX4 rfl dX4_leadsByTurn_6 ?_
  refine x_st (st' := [.ref (a2 (26 + 0))]) rfl ?_
  refine x_getf C (by omega) (by omega) (cx_farm (by omega) (by omega)) rfl 5 (by decide) wf145 hinX1 rfl dX4_leadsByTurn_9 ?_
  refine x_st (st' := [.int (iI (F 1))]) (by rw [ldm_o (by decide), HF.tc]) ?_
  refine x_iconst C dX4_leadsByTurn_12 ?_
  refine x_bipush C dX4_leadsByTurn_13 (by decide) ?_
  refine x_cS_i C (As := [.int (iI (F 1)), .int (iI (1)), .int (iI (8))]) (rest := []) (by decide) (c_X4_outside l D yc t1 t2 A (xw a2 yc) (ldm g F 0) (F 1) 1 8 (by omega) (by omega) (by omega)) (va_cwS 3 C.hts gX4_leadsByTurn_X4_outside rfl rfl rfl (by decide +kernel) ⟨by decide, by decide⟩) rfl rfl (Nat.le_of_ble_eq_true rfl) dX4_leadsByTurn_15 ?_
  intro r9 g9 h9
  rw [h9.1, h9.2]
  clear h9 g9 r9
  try dsimp only
  refine x_ifb_eq (tgt := 23) C dX4_leadsByTurn_18 (by decide) (fun c18 => ?_) (fun c18 => ?_)
  · skip
    refine x_iconst C dX4_leadsByTurn_23 ?_
    refine x_istore_n (lv' := [(2, .int (iI (0))), (1, .ref (a2 (86))), (0, .ref (a2 (0)))]) C dX4_leadsByTurn_24 (by decide) rfl ?_
    refine x_lv (congrArg (fun x9 => ([(2, .int (iI x9)), (1, .ref (a2 (86))), (0, .ref (a2 (0)))] : List (Nat × Value))) (show (0) = (((0 : Int))) by first | rfl | omega | (simp; done))) ?_
    refine x_loop1 (fun (t : Int) => (24 - t).toNat) (fun (t : Int) => 0 ≤ t ∧ t ≤ 24) (fun (t : Int) => [(2, .int (iI (t))), (1, .ref (a2 (86))), (0, .ref (a2 (0)))]) (fun (t : Int) => (ldm g F t)) ?_ 0 (by omega)
    intro t hI25 ih25
    try dsimp only at ih25 ⊢
    refine x_iload_n C 0 dX4_leadsByTurn_25 rfl ?_
    refine x_bipush C dX4_leadsByTurn_26 (by decide) ?_
    refine x_icmp_ge (tgt := 59) C dX4_leadsByTurn_28 (by decide) (by omega) (by omega) (fun c28 => ?_) (fun c28 => ?_)
    · skip
      refine x_aload_n C 1 dX4_leadsByTurn_59 rfl ?_
      exact x_ret_r C e2 rfl dX4_leadsByTurn_60 (by rw [show t = 24 by omega])
    · skip
      have hm := emd (d := t) (n := F 1) (by omega)
      refine x_aload_n C 1 dX4_leadsByTurn_31 rfl ?_
      refine x_iload_n C 0 dX4_leadsByTurn_32 rfl ?_
      refine x_aload_n C 2 dX4_leadsByTurn_33 rfl ?_
      refine x_getf C (by omega) (by omega) cx_cow rfl 2 (by decide) wf21 hinX4 rfl dX4_leadsByTurn_34 ?_
      refine x_st (st' := [.ref (a2 (26 + 0)), .int (iI (t)), .ref (a2 (86))]) rfl ?_
      refine x_getf C (by omega) (by omega) (cx_farm (by omega) (by omega)) rfl 5 (by decide) wf145 hinX1 rfl dX4_leadsByTurn_37 ?_
      refine x_st (st' := [.int (iI (F 1)), .int (iI (t)), .ref (a2 (86))]) (by rw [ldm_o (by decide), HF.tc]) ?_
      refine x_irem C dX4_leadsByTurn_40 (by omega) (by omega) (by omega) (by omega) ?_
      refine x_dup2 C dX4_leadsByTurn_41 rfl rfl ?_
      refine x_iaload C (by omega) (by omega) cx_tmp (by omega) (by omega) (by decide) dX4_leadsByTurn_42 ?_
      refine x_st (st' := [.int (iI (lds F t (t % F 1))), .int (iI (t % (F 1))), .ref (a2 (86))]) (by rw [ldm_i]) ?_
      refine x_aload_n C 2 dX4_leadsByTurn_43 rfl ?_
      refine x_getf C (by omega) (by omega) cx_cow rfl 2 (by decide) wf21 hinX4 rfl dX4_leadsByTurn_44 ?_
      refine x_st (st' := [.ref (a2 (26 + 0)), .int (iI (lds F t (t % F 1))), .int (iI (t % (F 1))), .ref (a2 (86))]) rfl ?_
      refine x_iload_n C 0 dX4_leadsByTurn_47 rfl ?_
      refine x_cV_i C (As := [.int (iI (t))]) (rest := [.int (iI (lds F t (t % F 1))), .int (iI (t % (F 1))), .ref (a2 (86))]) (by decide) (c_X1_leadOn_x l D yc t1 t2 a2 A (ldm g F t) 0 t F (by omega) (FR_86 HF HI (fun q h => ldm_o h)) HI (by omega) (by omega)) (cwV 1 C.hts gX4_leadsByTurn_X1_leadOn rfl rfl rfl (by decide +kernel) ⟨by decide, by decide⟩) (fun H hP => va_recv C.hK hP (ci := 1) (q0 := (26 + 0 : Int).toNat) rfl (wo_is (by omega) (by omega) (cx_farm (by omega) (by omega)))) rfl rfl (Nat.le_of_ble_eq_true rfl) dX4_leadsByTurn_48 ?_
      intro r9 g9 h9
      rw [h9.1, h9.2]
      clear h9 g9 r9
      try dsimp only
      refine x_iadd C dX4_leadsByTurn_51 ?_
      refine x_iastore C (ctx_L a2 yc) (by omega) (by omega) cx_tmp (cx_tmp).symm (by omega) (by omega) (by decide) dX4_leadsByTurn_52 ?_
      refine x_iinc (z' := t + 1) (lv' := [(2, .int (iI (t + 1))), (1, .ref (a2 (86))), (0, .ref (a2 (0)))]) C 0 dX4_leadsByTurn_53 rfl (by omega) (by decide) rfl ?_
      refine x_goto (tgt := 25) C dX4_leadsByTurn_56 (by decide) ?_
      exact x_g (ldm_s (by omega)) (ih25 (t + 1) (by omega) (by omega))
  · exact absurd c18 (by omega)

set_option maxRecDepth 100000 in
set_option maxHeartbeats 4000000 in
theorem c_X4_even (l : Launch) (D : va_G) (yc : Nat → ClassId) (t1 t2 : Nat) (a : Int → Nat) (A : Nat → Prop) (g : Mm) (F : Int → Int) (HF : FR g 0 F) (HI : FI F) : Met l yX4_even wsX4_even { frames := 3, cells := 1, slots := 8, locals := 64 } (va_Pc [.ref (a (0))] (WA D yc t1 t2 A a g)) (va_Qi (fun r9 g' => r9 = (iI (if F 0 = 0 then -4 else if evB F (pw (F 1)).toNat = -9 then -9 else sI (bt (evB F (pw (F 1)).toNat)) 24)) ∧ g' = (if F 0 = 0 then g else if evB F (pw (F 1)).toNat = -9 then g else mu g 0 7 (evB F (pw (F 1)).toNat))) (fun g' t => va_P D vwCl (cw a yc g') t.heap) A) 1 8 A := by
  refine start_ia (cc := cX4_even) (nL := 6) (ret := (some .int)) (own := RX4) (by decide +kernel) rfl rfl (Nat.le_of_ble_eq_true rfl) ?_
  intro p e s m9 below meth c9 C hA
  have wf21 : Cond.fieldLink RX4 21 (TX4 2).1 (TX4 2).2.1 (TX4 2).2.2.1 ∈ wsX4_even := by decide +kernel
  have hinX4 : ∀ w ∈ u_ws RX4 TX4 10, w ∈ wsX4_even := by decide +kernel
  have wf145 : Cond.fieldLink RX4 145 (TX1 5).1 (TX1 5).2.1 (TX1 5).2.2.1 ∈ wsX4_even := by decide +kernel
  have hinX1 : ∀ w ∈ u_ws RX1 TX1 11, w ∈ wsX4_even := by decide +kernel
  have wf74 : Cond.fieldLink RX4 74 (TX4 7).1 (TX4 7).2.1 (TX4 7).2.2.1 ∈ wsX4_even := by decide +kernel
  have hn := HI.n
  refine x_lv (lv' := [(0, .ref (a (0)))]) rfl ?_
  refine x_aload_n C 0 dX4_even_0 rfl ?_
  refine x_getf C (by omega) (by omega) ct_cow rfl 2 (by decide) wf21 hinX4 rfl dX4_even_1 ?_
  refine x_st (st' := [.ref (a (26 + 0))]) rfl ?_
  refine x_cV_i C (As := []) (rest := []) (by decide) (c_X1_isMissing l D yc t1 t2 a A g 0 F (by omega) HF HI) (cwV 0 C.hts gX4_even_X1_isMissing rfl rfl rfl (by decide +kernel) ⟨by decide, by decide⟩) (fun H hP => va_recv C.hK hP (ci := 1) (q0 := (26 + 0 : Int).toNat) rfl (wo_is (by omega) (by omega) (ct_farm (by omega) (by omega)))) rfl rfl (Nat.le_of_ble_eq_true rfl) dX4_even_4 ?_
  intro r9 g9 h9
  rw [h9.1, h9.2]
  clear h9 g9 r9
  try dsimp only
  refine x_ifb_eq (tgt := 13) C dX4_even_7 (by decide) (fun c7 => ?_) (fun c7 => ?_)
  · skip
    have hp8 := pw_8 (n := F 1) (by omega) (by omega)
    refine x_aload_n C 0 dX4_even_13 rfl ?_
    refine x_cVr C hA (As := []) (rest := []) (by decide) (c_X4_leadsByTurn l D yc t1 t2 a A g F HF HI (by omega)) (cwV 0 C.hts gX4_even_X4_leadsByTurn rfl rfl rfl (by decide +kernel) ⟨by decide, by decide⟩) (fun H hP => va_recv C.hK hP (ci := 4) (q0 := (0 : Int).toNat) rfl (wo_is (by omega) (by omega) ct_cow)) rfl rfl (Nat.le_of_ble_eq_true rfl) dX4_even_14 (fun a2 e2 C g9 h9 => ?_)
    subst h9
    refine x_lv (lv' := [(0, .ref (a2 (0)))]) (by rw [e2 (0) (by decide) (by decide)]) ?_
    refine x_astore_n (lv' := [(1, .ref (a2 (86))), (0, .ref (a2 (0)))]) C dX4_even_17 (by decide) rfl ?_
    refine x_bipush C dX4_even_18 (by decide) ?_
    refine x_istore_n (lv' := [(2, .int (iI (9))), (1, .ref (a2 (86))), (0, .ref (a2 (0)))]) C dX4_even_20 (by decide) rfl ?_
    refine x_iconst C dX4_even_21 ?_
    refine x_istore_n (lv' := [(3, .int (iI (0))), (2, .int (iI (9))), (1, .ref (a2 (86))), (0, .ref (a2 (0)))]) C dX4_even_22 (by decide) rfl ?_
    refine x_iconst C dX4_even_23 ?_
    refine x_istore (lv' := [(4, .int (iI (0))), (3, .int (iI (0))), (2, .int (iI (9))), (1, .ref (a2 (86))), (0, .ref (a2 (0)))]) C dX4_even_24 (by decide) rfl ?_
    refine x_lv (congrArg (fun x9 => ([(4, .int (iI x9)), (3, .int (iI (0))), (2, .int (iI (9))), (1, .ref (a2 (86))), (0, .ref (a2 (0)))] : List (Nat × Value))) (show (0) = (((0 : Int))) by first | rfl | omega | (simp; done))) ?_
    refine x_lv (congrArg (fun x9 => ([(4, .int (iI (((0 : Int))))), (3, .int (iI x9)), (2, .int (iI (9))), (1, .ref (a2 (86))), (0, .ref (a2 (0)))] : List (Nat × Value))) (show (0) = (((0 : Int))) by first | rfl | omega | (simp; done))) ?_
    refine x_lv (congrArg (fun x9 => ([(4, .int (iI (((0 : Int))))), (3, .int (iI (((0 : Int))))), (2, .int (iI x9)), (1, .ref (a2 (86))), (0, .ref (a2 (0)))] : List (Nat × Value))) (show (9) = (((9 : Int))) by first | rfl | omega | (simp; done))) ?_
    refine x_loop3 (fun (x : Int) (y : Int) (t : Int) => (pw (F 1) - t).toNat) (fun (x : Int) (y : Int) (t : Int) => 0 ≤ t ∧ t ≤ pw (F 1) ∧ (evB F t.toNat = -9 → x = 9 ∧ y = 0) ∧ (¬ evB F t.toNat = -9 → x = sI (bt (evB F t.toNat)) 24 ∧ y = evB F t.toNat)) (fun (x : Int) (y : Int) (t : Int) => [(4, .int (iI (t))), (3, .int (iI (y))), (2, .int (iI (x))), (1, .ref (a2 (86))), (0, .ref (a2 (0)))]) (fun (x : Int) (y : Int) (t : Int) => (ldm g F 24)) ?_ 9 0 0 ⟨by omega, by omega, fun _ => ⟨rfl, rfl⟩, fun h => absurd rfl h⟩
    intro x y t hI26 ih26
    try dsimp only at ih26 ⊢
    refine x_iload C 0 dX4_even_26 rfl ?_
    refine x_iconst C dX4_even_28 ?_
    refine x_aload_n C 4 dX4_even_29 rfl ?_
    refine x_getf C (by omega) (by omega) cx_cow rfl 2 (by decide) wf21 hinX4 rfl dX4_even_30 ?_
    refine x_st (st' := [.ref (a2 (26 + 0)), .int (iI (1)), .int (iI (t))]) rfl ?_
    refine x_getf C (by omega) (by omega) (cx_farm (by omega) (by omega)) rfl 5 (by decide) wf145 hinX1 rfl dX4_even_33 ?_
    refine x_st (st' := [.int (iI (F 1)), .int (iI (1)), .int (iI (t))]) (by rw [ldm_o (by decide), HF.tc]) ?_
    refine x_ishl (z := (iI (pw (F 1)))) C dX4_even_36 (shl_1 (by omega) (by omega)) ?_
    refine x_icmp_ge (tgt := 74) C dX4_even_37 (by decide) (by omega) (by omega) (fun c37 => ?_) (fun c37 => ?_)
    · skip
      have htp : t = pw (F 1) := by omega
      have hr := evB_r F (pw (F 1)).toNat
      rw [htp] at hI26
      have ho9 : ¬ evB F (pw (F 1)).toNat = -9 → sI (bt (evB F (pw (F 1)).toNat)) 24 ≤ 8 := (fun z => ones_le (n := 8) (x := evB F (pw (F 1)).toNat) (by omega) (by omega) (by omega) (by rw [show pw 8 = 256 from rfl]; omega))
      have ho2 := ones_bd (evB F (pw (F 1)).toNat)
      have hx9 : (evB F (pw (F 1)).toNat = -9 ∧ x = 9 ∧ y = 0) ∨ (¬ evB F (pw (F 1)).toNat = -9 ∧ x = sI (bt (evB F (pw (F 1)).toNat)) 24 ∧ y = evB F (pw (F 1)).toNat) := (Classical.em (evB F (pw (F 1)).toNat = -9)).elim (fun h => Or.inl ⟨h, hI26.2.2.1 h⟩) (fun h => Or.inr ⟨h, hI26.2.2.2 h⟩)
      refine x_iload_n C 2 dX4_even_74 rfl ?_
      refine x_bipush C dX4_even_75 (by decide) ?_
      refine x_icmp_le (tgt := 83) C dX4_even_77 (by decide) (by omega) (by omega) (fun c77 => ?_) (fun c77 => ?_)
      · skip
        refine x_aload_n C 4 dX4_even_83 rfl ?_
        refine x_iload_n C 1 dX4_even_84 rfl ?_
        refine x_puti C (ctx_L a2 yc) (by omega) (by omega) cx_cow rfl 7 (by decide) wf74 hinX4 tyX4 tyX4_ok nmX4 rfl (by decide +kernel) (by simp) cxs_cow_7 dX4_even_85 ?_
        refine x_g (g' := (mu (ldm g F 24) (0) (7) (y))) rfl ?_
        refine x_iload_n C 2 dX4_even_88 rfl ?_
        exact x_ret_ix C e2 rfl dX4_even_89 (by have h9 : ¬ evB F (pw (F 1)).toNat = -9 := (by omega); have h8 := hI26.2.2.2 h9; rw [h8.1, h8.2]; exact ⟨fun q h => ev_mu h, by show _ ∧ _; rw [if_neg (show ¬ F 0 = 0 by omega), if_neg (show ¬ F 0 = 0 by omega), if_neg h9, if_neg h9]; exact ⟨rfl, rfl⟩⟩)
      · skip
        refine x_bipush C dX4_even_80 (by decide) ?_
        exact x_ret_ix C e2 rfl dX4_even_82 (by have h9 : evB F (pw (F 1)).toNat = -9 := (by omega); exact ⟨fun q h => ldm_o h, by show _ ∧ _; rw [if_neg (show ¬ F 0 = 0 by omega), if_neg (show ¬ F 0 = 0 by omega), if_pos h9, if_pos h9]; exact ⟨rfl, rfl⟩⟩)
    · skip
      have hr := evB_r F t.toNat
      have ho1 := ones_le (n := 8) (x := t) (by omega) (by omega) (by omega) (by rw [show pw 8 = 256 from rfl]; omega)
      have ho0 := ones_bd t
      have ho2 := ones_bd (evB F t.toNat)
      have hsb := sI_bd (h := evS F t) (B := 9) (n := 24) (fun e _ _ => by have := mOn9 HI (by omega) e; unfold evS; split <;> omega) (by omega)
      have hes := evB_s F (t := t) (by omega)
      have hx9 : (evB F t.toNat = -9 ∧ x = 9) ∨ (¬ evB F t.toNat = -9 ∧ x = sI (bt (evB F t.toNat)) 24) := (Classical.em (evB F t.toNat = -9)).elim (fun h => Or.inl ⟨h, (hI26.2.2.1 h).1⟩) (fun h => Or.inr ⟨h, (hI26.2.2.2 h).1⟩)
      refine x_iload C 0 dX4_even_40 rfl ?_
      refine x_cS_i C (As := [.int (iI (t))]) (rest := []) (by decide) (c_J6_bitCount_0f7a4 l D yc t1 t2 A (xw a2 yc) (ldm g F 24) t (by omega)) (va_cwS 1 C.hts gX4_even_J6_bitCount_0f7a4 rfl rfl rfl (by decide +kernel) ⟨by decide, by decide⟩) rfl rfl (Nat.le_of_ble_eq_true rfl) dX4_even_42 ?_
      intro r9 g9 h9
      rw [h9.1, h9.2]
      clear h9 g9 r9
      try dsimp only
      refine x_istore (lv' := [(5, .int (iI (sI (bt t) 24))), (4, .int (iI (t))), (3, .int (iI (y))), (2, .int (iI (x))), (1, .ref (a2 (86))), (0, .ref (a2 (0)))]) C dX4_even_45 (by decide) rfl ?_
      refine x_iload C 0 dX4_even_47 rfl ?_
      refine x_iload_n C 3 dX4_even_49 rfl ?_
      refine x_icmp_ge (tgt := 68) C dX4_even_50 (by decide) (by omega) (by omega) (fun c50 => ?_) (fun c50 => ?_)
      · skip
        refine x_iinc (z' := t + 1) (lv' := [(4, .int (iI (t + 1))), (5, .int (iI (sI (bt t) 24))), (3, .int (iI (y))), (2, .int (iI (x))), (1, .ref (a2 (86))), (0, .ref (a2 (0)))]) C 1 dX4_even_68 rfl (by omega) (by decide) rfl ?_
        refine x_goto (tgt := 26) C dX4_even_71 (by decide) ?_
        refine x_sub (lv' := [(4, .int (iI (t + 1))), (3, .int (iI (y))), (2, .int (iI (x))), (1, .ref (a2 (86))), (0, .ref (a2 (0)))]) [0, 2, 3, 4, 5] rfl ?_
        exact ih26 x y (t + 1) ⟨by omega, by omega, fun h => by
        rw [hes] at h
        first | (rw [if_pos (by omega)] at h; omega) | (rw [if_neg (by omega)] at h; exact hI26.2.2.1 h), fun h => by
        rw [hes] at h ⊢
        first | (rw [if_pos (by omega)]; exact ⟨rfl, rfl⟩) | (rw [if_neg (by omega)] at h ⊢; exact hI26.2.2.2 h)⟩ (by omega)
      · skip
        refine x_aload_n C 4 dX4_even_53 rfl ?_
        refine x_iload C 1 dX4_even_54 rfl ?_
        refine x_cS_i C (As := [.ref (a2 (86)), .int (iI (t))]) (rest := []) (by decide) (c_X4_leadIfChanged l D yc t1 t2 a2 A (ldm g F 24) t (by omega)) (va_cwS 2 C.hts gX4_even_X4_leadIfChanged rfl rfl rfl (by decide +kernel) ⟨by decide, by decide⟩) rfl rfl (Nat.le_of_ble_eq_true rfl) dX4_even_56 ?_
        intro r9 g9 h9
        rw [h9.1, h9.2]
        clear h9 g9 r9
        try dsimp only
        refine x_st (st' := [.int (iI (-sI (evS F t) 24))]) (by simp only [ldm_i]; rw [ev_lead HI (by omega)]) ?_
        refine x_if_ne (tgt := 68) C dX4_even_59 (by decide) (by omega) (fun c59 => ?_) (fun c59 => ?_)
        · skip
          refine x_iinc (z' := t + 1) (lv' := [(4, .int (iI (t + 1))), (5, .int (iI (sI (bt t) 24))), (3, .int (iI (y))), (2, .int (iI (x))), (1, .ref (a2 (86))), (0, .ref (a2 (0)))]) C 1 dX4_even_68 rfl (by omega) (by decide) rfl ?_
          refine x_goto (tgt := 26) C dX4_even_71 (by decide) ?_
          refine x_sub (lv' := [(4, .int (iI (t + 1))), (3, .int (iI (y))), (2, .int (iI (x))), (1, .ref (a2 (86))), (0, .ref (a2 (0)))]) [0, 2, 3, 4, 5] rfl ?_
          exact ih26 x y (t + 1) ⟨by omega, by omega, fun h => by
        rw [hes] at h
        first | (rw [if_pos (by omega)] at h; omega) | (rw [if_neg (by omega)] at h; exact hI26.2.2.1 h), fun h => by
        rw [hes] at h ⊢
        first | (rw [if_pos (by omega)]; exact ⟨rfl, rfl⟩) | (rw [if_neg (by omega)] at h ⊢; exact hI26.2.2.2 h)⟩ (by omega)
        · skip
          refine x_iload C 0 dX4_even_62 rfl ?_
          refine x_istore_n (lv' := [(2, .int (iI (sI (bt t) 24))), (5, .int (iI (sI (bt t) 24))), (4, .int (iI (t))), (3, .int (iI (y))), (1, .ref (a2 (86))), (0, .ref (a2 (0)))]) C dX4_even_64 (by decide) rfl ?_
          refine x_iload C 2 dX4_even_65 rfl ?_
          refine x_istore_n (lv' := [(3, .int (iI (t))), (2, .int (iI (sI (bt t) 24))), (5, .int (iI (sI (bt t) 24))), (4, .int (iI (t))), (1, .ref (a2 (86))), (0, .ref (a2 (0)))]) C dX4_even_67 (by decide) rfl ?_
          refine x_iinc (z' := t + 1) (lv' := [(4, .int (iI (t + 1))), (3, .int (iI (t))), (2, .int (iI (sI (bt t) 24))), (5, .int (iI (sI (bt t) 24))), (1, .ref (a2 (86))), (0, .ref (a2 (0)))]) C 3 dX4_even_68 rfl (by omega) (by decide) rfl ?_
          refine x_goto (tgt := 26) C dX4_even_71 (by decide) ?_
          refine x_sub (lv' := [(4, .int (iI (t + 1))), (3, .int (iI (t))), (2, .int (iI (sI (bt t) 24))), (1, .ref (a2 (86))), (0, .ref (a2 (0)))]) [0, 1, 2, 4, 5] rfl ?_
          exact ih26 (sI (bt t) 24) t (t + 1) ⟨by omega, by omega, fun h => by
        rw [hes] at h
        first | (rw [if_pos (by omega)] at h; omega) | (rw [if_neg (by omega)] at h; exact hI26.2.2.1 h), fun h => by
        rw [hes] at h ⊢
        first | (rw [if_pos (by omega)]; exact ⟨rfl, rfl⟩) | (rw [if_neg (by omega)] at h ⊢; exact hI26.2.2.2 h)⟩ (by omega)
  · skip
    refine x_bipush C dX4_even_10 (by decide) ?_
    refine x_widen (k := 1) (n := 8) (by decide) (by decide) ?_
    exact x_ret_i C rfl dX4_even_12 (by show _ ∧ _; rw [if_pos (by omega), if_pos (by omega)]; exact ⟨rfl, rfl⟩)
