set_option maxRecDepth 100000 in
set_option maxHeartbeats 4000000 in
theorem c_X5_isBeast (l : Launch) (D : va_G) (yc : Nat → ClassId) (t1 t2 : Nat) (a : Int → Nat) (A : Nat → Prop) (g : Mm) (i : Int) (hi : R32 i) (HI : FI (g 6)) : Ci l yX5_isBeast wsX5_isBeast { frames := 1, cells := 0, slots := 0, locals := 22 } D yc t1 t2 A (mw a yc) [.ref (a (0)), .int (iI (i))] g (fun r9 g' => r9 = (bI (0 ≤ i ∧ i < g 6 0)) ∧ g' = g) := by
  refine start_i (cc := cX5_isBeast) (nL := 2) (ret := (some .boolean)) (own := RX5) (by decide +kernel) rfl rfl (Nat.le_of_ble_eq_true rfl) ?_
  intro p e s m9 below meth c9 C
  have wf25 : Cond.fieldLink RX5 25 (TX5 5).1 (TX5 5).2.1 (TX5 5).2.2.1 ∈ wsX5_isBeast := by decide +kernel
  have hinX5 : ∀ w ∈ u_ws RX5 TX5 17, w ∈ wsX5_isBeast := by decide +kernel
  have hn := HI.n
  refine v_lv (lv' := [(0, .ref (a (0))), (1, .int (iI (i)))]) rfl ?_
  refine v_iload_n C 1 dX5_isBeast_0 rfl ?_
  refine v_iconst C dX5_isBeast_1 ?_
  refine v_aload_n C 0 dX5_isBeast_2 rfl ?_
  refine v_getf C (by omega) (by omega) ct_mod rfl 5 (by decide) wf25 hinX5 rfl dX5_isBeast_3 ?_
  refine v_iconst C dX5_isBeast_6 ?_
  refine v_iaload C (by omega) (by omega) ct_mnow (by omega) (by omega) (by decide) dX5_isBeast_7 ?_
  refine v_iconst C dX5_isBeast_8 ?_
  refine v_isub C dX5_isBeast_9 ?_
  refine v_cS_i C (As := [.int (iI (i)), .int (iI (0)), .int (iI ((g (6) (0)) - 1))]) (rest := []) (c_X5_in l D yc t1 t2 A (mw a yc) g i 0 ((g (6) (0)) - 1) (by omega) (by omega) (by omega)) (va_cwS 3 C.hts gX5_isBeast_X5_in rfl rfl rfl (by decide +kernel) ⟨by decide, by decide⟩) rfl rfl (Nat.le_of_ble_eq_true rfl) dX5_isBeast_10 ?_
  intro r9 g9 h9
  rw [h9.1, h9.2]
  clear h9 g9 r9
  try dsimp only
  exact v_ret_z C rfl (bI_01 _) dX5_isBeast_13 ⟨(bI_cg (by omega)), rfl⟩

set_option maxRecDepth 100000 in
set_option maxHeartbeats 4000000 in
theorem c_X5_are (l : Launch) (D : va_G) (yc : Nat → ClassId) (t1 t2 : Nat) (a : Int → Nat) (A : Nat → Prop) (g : Mm)  (HI : FI (g 6)) : Ci l yX5_are wsX5_are { frames := 0, cells := 0, slots := 0, locals := 0 } D yc t1 t2 A (mw a yc) [.ref (a (0))] g (fun r9 g' => r9 = (bI (¬ g 6 0 = 0)) ∧ g' = g) := by
  refine start_i (cc := cX5_are) (nL := 1) (ret := (some .boolean)) (own := RX5) (by decide +kernel) rfl rfl (Nat.le_of_ble_eq_true rfl) ?_
  intro p e s m9 below meth c9 C
  have wf25 : Cond.fieldLink RX5 25 (TX5 5).1 (TX5 5).2.1 (TX5 5).2.2.1 ∈ wsX5_are := by decide +kernel
  have hinX5 : ∀ w ∈ u_ws RX5 TX5 17, w ∈ wsX5_are := by decide +kernel
  have hn := HI.n
  refine v_lv (lv' := [(0, .ref (a (0)))]) rfl ?_
  refine v_aload_n C 0 dX5_are_0 rfl ?_
  refine v_getf C (by omega) (by omega) ct_mod rfl 5 (by decide) wf25 hinX5 rfl dX5_are_1 ?_
  refine v_iconst C dX5_are_4 ?_
  refine v_iaload C (by omega) (by omega) ct_mnow (by omega) (by omega) (by decide) dX5_are_5 ?_
  refine v_if_le (tgt := 13) C dX5_are_6 (by decide) (by omega) (fun c6 => ?_) (fun c6 => ?_)
  · skip
    refine v_iconst C dX5_are_13 ?_
    exact v_ret_z C rfl (Or.inl rfl) dX5_are_14 ⟨(bI_f (by omega)), rfl⟩
  · skip
    refine v_iconst C dX5_are_9 ?_
    refine v_goto (tgt := 14) C dX5_are_10 (by decide) ?_
    exact v_ret_z C rfl (Or.inr rfl) dX5_are_14 ⟨(bI_t (by omega)), rfl⟩

set_option maxRecDepth 100000 in
set_option maxHeartbeats 4000000 in
theorem c_X5_kindIn (l : Launch) (D : va_G) (yc : Nat → ClassId) (t1 t2 : Nat) (a : Int → Nat) (A : Nat → Prop) (g : Mm) (i : Int) (hi : 0 ≤ i ∧ i < 6) : Ci l yX5_kindIn wsX5_kindIn { frames := 0, cells := 0, slots := 0, locals := 0 } D yc t1 t2 A (mw a yc) [.ref (a (0)), .int (iI (i))] g (fun r9 g' => r9 = (iI (g 6 (20 + 3 * i))) ∧ g' = g) := by
  refine start_i (cc := cX5_kindIn) (nL := 2) (ret := (some .int)) (own := RX5) (by decide +kernel) rfl rfl (Nat.le_of_ble_eq_true rfl) ?_
  intro p e s m9 below meth c9 C
  have wf25 : Cond.fieldLink RX5 25 (TX5 5).1 (TX5 5).2.1 (TX5 5).2.2.1 ∈ wsX5_kindIn := by decide +kernel
  have hinX5 : ∀ w ∈ u_ws RX5 TX5 17, w ∈ wsX5_kindIn := by decide +kernel
  refine v_lv (lv' := [(0, .ref (a (0))), (1, .int (iI (i)))]) rfl ?_
  refine v_aload_n C 0 dX5_kindIn_0 rfl ?_
  refine v_getf C (by omega) (by omega) ct_mod rfl 5 (by decide) wf25 hinX5 rfl dX5_kindIn_1 ?_
  refine v_bipush C dX5_kindIn_4 (by decide) ?_
  refine v_iconst C dX5_kindIn_6 ?_
  refine v_iload_n C 1 dX5_kindIn_7 rfl ?_
  refine v_imul C dX5_kindIn_8 ?_
  refine v_iadd C dX5_kindIn_9 ?_
  refine v_iaload C (by omega) (by omega) ct_mnow (by omega) (by omega) (by decide) dX5_kindIn_10 ?_
  exact v_ret_i C rfl dX5_kindIn_11 ⟨rfl, rfl⟩

set_option maxRecDepth 100000 in
set_option maxHeartbeats 4000000 in
theorem c_X5_ownerOf (l : Launch) (D : va_G) (yc : Nat → ClassId) (t1 t2 : Nat) (a : Int → Nat) (A : Nat → Prop) (g : Mm) (i : Int) (hi : 0 ≤ i ∧ i < 6) : Ci l yX5_ownerOf wsX5_ownerOf { frames := 0, cells := 0, slots := 0, locals := 0 } D yc t1 t2 A (mw a yc) [.ref (a (0)), .int (iI (i))] g (fun r9 g' => r9 = (iI (g 6 (20 + 3 * i + 2))) ∧ g' = g) := by
  refine start_i (cc := cX5_ownerOf) (nL := 2) (ret := (some .int)) (own := RX5) (by decide +kernel) rfl rfl (Nat.le_of_ble_eq_true rfl) ?_
  intro p e s m9 below meth c9 C
  have wf25 : Cond.fieldLink RX5 25 (TX5 5).1 (TX5 5).2.1 (TX5 5).2.2.1 ∈ wsX5_ownerOf := by decide +kernel
  have hinX5 : ∀ w ∈ u_ws RX5 TX5 17, w ∈ wsX5_ownerOf := by decide +kernel
  refine v_lv (lv' := [(0, .ref (a (0))), (1, .int (iI (i)))]) rfl ?_
  refine v_aload_n C 0 dX5_ownerOf_0 rfl ?_
  refine v_getf C (by omega) (by omega) ct_mod rfl 5 (by decide) wf25 hinX5 rfl dX5_ownerOf_1 ?_
  refine v_bipush C dX5_ownerOf_4 (by decide) ?_
  refine v_iconst C dX5_ownerOf_6 ?_
  refine v_iload_n C 1 dX5_ownerOf_7 rfl ?_
  refine v_imul C dX5_ownerOf_8 ?_
  refine v_iadd C dX5_ownerOf_9 ?_
  refine v_iconst C dX5_ownerOf_10 ?_
  refine v_iadd C dX5_ownerOf_11 ?_
  refine v_iaload C (by omega) (by omega) ct_mnow (by omega) (by omega) (by decide) dX5_ownerOf_12 ?_
  exact v_ret_i C rfl dX5_ownerOf_13 ⟨rfl, rfl⟩

set_option maxRecDepth 100000 in
set_option maxHeartbeats 4000000 in
theorem c_X5_valueTo (l : Launch) (D : va_G) (yc : Nat → ClassId) (t1 t2 : Nat) (a : Int → Nat) (A : Nat → Prop) (g : Mm) (i q : Int) (hi : 0 ≤ i ∧ i < 6) (hk : 0 ≤ g 6 (20 + 3 * i) ∧ g 6 (20 + 3 * i) ≤ 5) (hq : 0 ≤ q ∧ q ≤ 1) : Ci l yX5_valueTo wsX5_valueTo { frames := 1, cells := 0, slots := 0, locals := 21 } D yc t1 t2 A (mw a yc) [.ref (a (0)), .int (iI (i)), .int (iI (q))] g (fun r9 g' => r9 = (iI (vT (g 6) i q)) ∧ g' = g) := by
  refine start_i (cc := cX5_valueTo) (nL := 4) (ret := (some .int)) (own := RX5) (by decide +kernel) rfl rfl (Nat.le_of_ble_eq_true rfl) ?_
  intro p e s m9 below meth c9 C
  have wf25 : Cond.fieldLink RX5 25 (TX5 5).1 (TX5 5).2.1 (TX5 5).2.2.1 ∈ wsX5_valueTo := by decide +kernel
  have hinX5 : ∀ w ∈ u_ws RX5 TX5 17, w ∈ wsX5_valueTo := by decide +kernel
  refine v_lv (lv' := [(0, .ref (a (0))), (1, .int (iI (i))), (2, .int (iI (q)))]) rfl ?_
  refine v_aload_n C 0 dX5_valueTo_0 rfl ?_
  refine v_getf C (by omega) (by omega) ct_mod rfl 5 (by decide) wf25 hinX5 rfl dX5_valueTo_1 ?_
  refine v_bipush C dX5_valueTo_4 (by decide) ?_
  refine v_iconst C dX5_valueTo_6 ?_
  refine v_iload_n C 1 dX5_valueTo_7 rfl ?_
  refine v_imul C dX5_valueTo_8 ?_
  refine v_iadd C dX5_valueTo_9 ?_
  refine v_iconst C dX5_valueTo_10 ?_
  refine v_iadd C dX5_valueTo_11 ?_
  refine v_iaload C (by omega) (by omega) ct_mnow (by omega) (by omega) (by decide) dX5_valueTo_12 ?_
  refine v_istore_n (lv' := [(3, .int (iI (g (6) ((20 + (3 * i)) + 1)))), (0, .ref (a (0))), (1, .int (iI (i))), (2, .int (iI (q)))]) C dX5_valueTo_13 (by decide) rfl ?_
  refine v_aload_n C 1 dX5_valueTo_14 rfl ?_
  refine v_iload_n C 2 dX5_valueTo_15 rfl ?_
  refine v_cV_i C (As := [.int (iI (i))]) (rest := []) (c_X5_kindIn l D yc t1 t2 a A g i (by omega)) (cwV 1 C.hts gX5_valueTo_X5_kindIn rfl rfl rfl (by decide +kernel) ⟨by decide, by decide⟩) (fun H hP => va_recv C.hK hP (ci := 5) (q0 := (0 : Int).toNat) rfl (wo_is (by omega) (by omega) ct_mod)) rfl rfl (Nat.le_of_ble_eq_true rfl) dX5_valueTo_16 ?_
  intro r9 g9 h9
  rw [h9.1, h9.2]
  clear h9 g9 r9
  try dsimp only
  rcases (show g 6 (20 + 3 * i) = 1 ∨ g 6 (20 + 3 * i) = 2 ∨ g 6 (20 + 3 * i) = 3 ∨ g 6 (20 + 3 * i) = 4 ∨ g 6 (20 + 3 * i) = 5 ∨ (g 6 (20 + 3 * i) < 1 ∨ 5 < g 6 (20 + 3 * i)) by omega) with c19 | c19 | c19 | c19 | c19 | c19
  · refine v_tin (off := 33) (tgt := 52) C 1 dX5_valueTo_19 c19 (by decide) (by decide) (by decide) rfl (by decide) ?_
    refine v_iload_n C 0 dX5_valueTo_52 rfl ?_
    exact v_ret_i C rfl dX5_valueTo_53 ⟨(by unfold vT vTo; repeat (first | rfl | rw [if_pos (by omega)] | rw [if_neg (by omega)])), rfl⟩
  · refine v_tin (off := 35) (tgt := 54) C 2 dX5_valueTo_19 c19 (by decide) (by decide) (by decide) rfl (by decide) ?_
    refine v_iconst C dX5_valueTo_54 ?_
    refine v_iload_n C 0 dX5_valueTo_55 rfl ?_
    refine v_imul C dX5_valueTo_56 ?_
    refine v_iconst C dX5_valueTo_57 ?_
    refine v_iload_n C 3 dX5_valueTo_58 rfl ?_
    refine v_imul C dX5_valueTo_59 ?_
    refine v_iadd C dX5_valueTo_60 ?_
    exact v_ret_i C rfl dX5_valueTo_61 ⟨(by unfold vT vTo; repeat (first | rfl | rw [if_pos (by omega)] | rw [if_neg (by omega)])), rfl⟩
  · refine v_tin (off := 53) (tgt := 72) C 3 dX5_valueTo_19 c19 (by decide) (by decide) (by decide) rfl (by decide) ?_
    refine v_iload_n C 3 dX5_valueTo_72 rfl ?_
    refine v_if_ne (tgt := 82) C dX5_valueTo_73 (by decide) (by omega) (fun c73 => ?_) (fun c73 => ?_)
    · skip
      refine v_iconst C dX5_valueTo_82 ?_
      refine v_iload_n C 0 dX5_valueTo_83 rfl ?_
      refine v_imul C dX5_valueTo_84 ?_
      exact v_ret_i C rfl dX5_valueTo_85 ⟨(by unfold vT vTo; repeat (first | rfl | rw [if_pos (by omega)] | rw [if_neg (by omega)])), rfl⟩
    · skip
      refine v_iconst C dX5_valueTo_76 ?_
      refine v_iload_n C 0 dX5_valueTo_77 rfl ?_
      refine v_imul C dX5_valueTo_78 ?_
      refine v_goto (tgt := 85) C dX5_valueTo_79 (by decide) ?_
      exact v_ret_i C rfl dX5_valueTo_85 ⟨(by unfold vT vTo; repeat (first | rfl | rw [if_pos (by omega)] | rw [if_neg (by omega)])), rfl⟩
  · refine v_tin (off := 43) (tgt := 62) C 4 dX5_valueTo_19 c19 (by decide) (by decide) (by decide) rfl (by decide) ?_
    refine v_iconst C dX5_valueTo_62 ?_
    refine v_iload_n C 0 dX5_valueTo_63 rfl ?_
    refine v_imul C dX5_valueTo_64 ?_
    refine v_iconst C dX5_valueTo_65 ?_
    refine v_iload_n C 3 dX5_valueTo_66 rfl ?_
    refine v_imul C dX5_valueTo_67 ?_
    refine v_iadd C dX5_valueTo_68 ?_
    refine v_iconst C dX5_valueTo_69 ?_
    refine v_iadd C dX5_valueTo_70 ?_
    exact v_ret_i C rfl dX5_valueTo_71 ⟨(by unfold vT vTo; repeat (first | rfl | rw [if_pos (by omega)] | rw [if_neg (by omega)])), rfl⟩
  · refine v_tin (off := 67) (tgt := 86) C 5 dX5_valueTo_19 c19 (by decide) (by decide) (by decide) rfl (by decide) ?_
    refine v_iload_n C 3 dX5_valueTo_86 rfl ?_
    refine v_if_ne (tgt := 98) C dX5_valueTo_87 (by decide) (by omega) (fun c87 => ?_) (fun c87 => ?_)
    · skip
      refine v_iconst C dX5_valueTo_98 ?_
      refine v_iload_n C 0 dX5_valueTo_99 rfl ?_
      refine v_imul C dX5_valueTo_100 ?_
      refine v_iconst C dX5_valueTo_101 ?_
      refine v_isub C dX5_valueTo_102 ?_
      exact v_ret_i C rfl dX5_valueTo_103 ⟨(by unfold vT vTo; repeat (first | rfl | rw [if_pos (by omega)] | rw [if_neg (by omega)])), rfl⟩
    · skip
      refine v_iconst C dX5_valueTo_90 ?_
      refine v_iload_n C 0 dX5_valueTo_91 rfl ?_
      refine v_imul C dX5_valueTo_92 ?_
      refine v_iconst C dX5_valueTo_93 ?_
      refine v_isub C dX5_valueTo_94 ?_
      refine v_goto (tgt := 103) C dX5_valueTo_95 (by decide) ?_
      exact v_ret_i C rfl dX5_valueTo_103 ⟨(by unfold vT vTo; repeat (first | rfl | rw [if_pos (by omega)] | rw [if_neg (by omega)])), rfl⟩
  · refine v_tout (tgt := 104) C dX5_valueTo_19 (by omega) c19 (by decide) ?_
    refine v_iconst C dX5_valueTo_104 ?_
    refine v_iload_n C 0 dX5_valueTo_105 rfl ?_
    refine v_imul C dX5_valueTo_106 ?_
    exact v_ret_i C rfl dX5_valueTo_107 ⟨(by unfold vT vTo; repeat (first | rfl | rw [if_pos (by omega)] | rw [if_neg (by omega)])), rfl⟩

set_option maxRecDepth 100000 in
set_option maxHeartbeats 4000000 in
theorem c_X5_beastHas (l : Launch) (D : va_G) (yc : Nat → ClassId) (t1 t2 : Nat) (a : Int → Nat) (A : Nat → Prop) (g : Mm) (i k : Int) (hi : 0 ≤ i ∧ i < g 6 0) (hk : 0 ≤ k ∧ k ≤ 4) (HI : FI (g 6)) : Ci l yX5_beastHas wsX5_beastHas { frames := 2, cells := 0, slots := 0, locals := 44 } D yc t1 t2 A (mw a yc) [.ref (a (0)), .int (iI (i)), .int (iI (k))] g (fun r9 g' => r9 = (iI (if k < 3 then g 6 (20 + 3 * i + k) else vT (g 6) i (k - 3))) ∧ g' = g) := by
  refine start_i (cc := cX5_beastHas) (nL := 3) (ret := (some .int)) (own := RX5) (by decide +kernel) rfl rfl (Nat.le_of_ble_eq_true rfl) ?_
  intro p e s m9 below meth c9 C
  have wf25 : Cond.fieldLink RX5 25 (TX5 5).1 (TX5 5).2.1 (TX5 5).2.2.1 ∈ wsX5_beastHas := by decide +kernel
  have hinX5 : ∀ w ∈ u_ws RX5 TX5 17, w ∈ wsX5_beastHas := by decide +kernel
  have hn := HI.n
  have hb := HI.b (i := i) (by omega) (by omega)
  refine v_lv (lv' := [(0, .ref (a (0))), (1, .int (iI (i))), (2, .int (iI (k)))]) rfl ?_
  refine v_iload_n C 2 dX5_beastHas_0 rfl ?_
  refine v_iconst C dX5_beastHas_1 ?_
  refine v_icmp_ge (tgt := 21) C dX5_beastHas_2 (by decide) (by omega) (by omega) (fun c2 => ?_) (fun c2 => ?_)
  · skip
    refine v_aload_n C 0 dX5_beastHas_21 rfl ?_
    refine v_iload_n C 1 dX5_beastHas_22 rfl ?_
    refine v_iload_n C 2 dX5_beastHas_23 rfl ?_
    refine v_iconst C dX5_beastHas_24 ?_
    refine v_isub C dX5_beastHas_25 ?_
    refine v_cV_i C (As := [.int (iI (i)), .int (iI (k - 3))]) (rest := []) (c_X5_valueTo l D yc t1 t2 a A g i (k - 3) (by omega) (by omega) (by omega)) (cwV 2 C.hts gX5_beastHas_X5_valueTo rfl rfl rfl (by decide +kernel) ⟨by decide, by decide⟩) (fun H hP => va_recv C.hK hP (ci := 5) (q0 := (0 : Int).toNat) rfl (wo_is (by omega) (by omega) ct_mod)) rfl rfl (Nat.le_of_ble_eq_true rfl) dX5_beastHas_26 ?_
    intro r9 g9 h9
    rw [h9.1, h9.2]
    clear h9 g9 r9
    try dsimp only
    exact v_ret_i C rfl dX5_beastHas_29 ⟨(by repeat (first | rfl | rw [if_pos (by omega)] | rw [if_neg (by omega)])), rfl⟩
  · skip
    refine v_aload_n C 0 dX5_beastHas_5 rfl ?_
    refine v_getf C (by omega) (by omega) ct_mod rfl 5 (by decide) wf25 hinX5 rfl dX5_beastHas_6 ?_
    refine v_bipush C dX5_beastHas_9 (by decide) ?_
    refine v_iconst C dX5_beastHas_11 ?_
    refine v_iload_n C 1 dX5_beastHas_12 rfl ?_
    refine v_imul C dX5_beastHas_13 ?_
    refine v_iadd C dX5_beastHas_14 ?_
    refine v_iload_n C 2 dX5_beastHas_15 rfl ?_
    refine v_iadd C dX5_beastHas_16 ?_
    refine v_iaload C (by omega) (by omega) ct_mnow (by omega) (by omega) (by decide) dX5_beastHas_17 ?_
    refine v_goto (tgt := 29) C dX5_beastHas_18 (by decide) ?_
    exact v_ret_i C rfl dX5_beastHas_29 ⟨(by repeat (first | rfl | rw [if_pos (by omega)] | rw [if_neg (by omega)])), rfl⟩

set_option maxRecDepth 100000 in
set_option maxHeartbeats 4000000 in
theorem c_X5_beast (l : Launch) (D : va_G) (yc : Nat → ClassId) (t1 t2 : Nat) (a : Int → Nat) (A : Nat → Prop) (g : Mm) (i k : Int) (hi : R32 i) (hk : R32 k) (HI : FI (g 6)) : Ci l yX5_beast wsX5_beast { frames := 3, cells := 0, slots := 0, locals := 66 } D yc t1 t2 A (mw a yc) [.ref (a (0)), .int (iI (i)), .int (iI (k))] g (fun r9 g' => r9 = (iI (if (i < 0 ∨ g 6 0 ≤ i) ∨ (k < 0 ∨ 4 < k) then -1 else 1)) ∧ g' = (if (i < 0 ∨ g 6 0 ≤ i) ∨ (k < 0 ∨ 4 < k) then g else mu g 0 11 (if k < 3 then g 6 (20 + 3 * i + k) else vT (g 6) i (k - 3)))) := by
  refine start_i (cc := cX5_beast) (nL := 3) (ret := (some .int)) (own := RX5) (by decide +kernel) rfl rfl (Nat.le_of_ble_eq_true rfl) ?_
  intro p e s m9 below meth c9 C
  have hn := HI.n
  refine v_lv (lv' := [(0, .ref (a (0))), (1, .int (iI (i))), (2, .int (iI (k)))]) rfl ?_
  refine v_aload_n C 0 dX5_beast_0 rfl ?_
  refine v_iload_n C 1 dX5_beast_1 rfl ?_
  refine v_cV_i C (As := [.int (iI (i))]) (rest := []) (c_X5_isBeast l D yc t1 t2 a A g i (by omega) HI) (cwV 1 C.hts gX5_beast_X5_isBeast rfl rfl rfl (by decide +kernel) ⟨by decide, by decide⟩) (fun H hP => va_recv C.hK hP (ci := 5) (q0 := (0 : Int).toNat) rfl (wo_is (by omega) (by omega) ct_mod)) rfl rfl (Nat.le_of_ble_eq_true rfl) dX5_beast_2 ?_
  intro r9 g9 h9
  rw [h9.1, h9.2]
  clear h9 g9 r9
  try dsimp only
  refine v_ifb_eq (tgt := 31) C dX5_beast_5 (by decide) (fun c5 => ?_) (fun c5 => ?_)
  · skip
    refine v_iconst C dX5_beast_31 ?_
    exact v_ret_i C rfl dX5_beast_32 ⟨(by repeat (first | rfl | rw [if_pos (by omega)] | rw [if_neg (by omega)])), (by first | rw [if_pos (show (i < 0 ∨ g 6 0 ≤ i) ∨ (k < 0 ∨ 4 < k) by omega)] | rw [if_neg (show ¬ ((i < 0 ∨ g 6 0 ≤ i) ∨ (k < 0 ∨ 4 < k)) by omega)])⟩
  · skip
    refine v_iload_n C 2 dX5_beast_8 rfl ?_
    refine v_iconst C dX5_beast_9 ?_
    refine v_iconst C dX5_beast_10 ?_
    refine v_cS_i C (As := [.int (iI (k)), .int (iI (0)), .int (iI (4))]) (rest := []) (c_X5_in l D yc t1 t2 A (mw a yc) g k 0 4 (by omega) (by omega) (by omega)) (va_cwS 3 C.hts gX5_beast_X5_in rfl rfl rfl (by decide +kernel) ⟨by decide, by decide⟩) rfl rfl (Nat.le_of_ble_eq_true rfl) dX5_beast_11 ?_
    intro r9 g9 h9
    rw [h9.1, h9.2]
    clear h9 g9 r9
    try dsimp only
    refine v_ifb_eq (tgt := 31) C dX5_beast_14 (by decide) (fun c14 => ?_) (fun c14 => ?_)
    · skip
      refine v_iconst C dX5_beast_31 ?_
      exact v_ret_i C rfl dX5_beast_32 ⟨(by repeat (first | rfl | rw [if_pos (by omega)] | rw [if_neg (by omega)])), (by first | rw [if_pos (show (i < 0 ∨ g 6 0 ≤ i) ∨ (k < 0 ∨ 4 < k) by omega)] | rw [if_neg (show ¬ ((i < 0 ∨ g 6 0 ≤ i) ∨ (k < 0 ∨ 4 < k)) by omega)])⟩
    · skip
      refine v_aload_n C 0 dX5_beast_17 rfl ?_
      refine v_iconst C dX5_beast_18 ?_
      refine v_aload_n C 0 dX5_beast_19 rfl ?_
      refine v_iload_n C 1 dX5_beast_20 rfl ?_
      refine v_iload_n C 2 dX5_beast_21 rfl ?_
      refine v_cV_i C (As := [.int (iI (i)), .int (iI (k))]) (rest := [.int (iI (1)), .ref (a (0))]) (c_X5_beastHas l D yc t1 t2 a A g i k (by omega) (by omega) HI) (cwV 2 C.hts gX5_beast_X5_beastHas rfl rfl rfl (by decide +kernel) ⟨by decide, by decide⟩) (fun H hP => va_recv C.hK hP (ci := 5) (q0 := (0 : Int).toNat) rfl (wo_is (by omega) (by omega) ct_mod)) rfl rfl (Nat.le_of_ble_eq_true rfl) dX5_beast_22 ?_
      intro r9 g9 h9
      rw [h9.1, h9.2]
      clear h9 g9 r9
      try dsimp only
      refine v_cV_i C (As := [.int (iI (1)), .int (iI (if k < 3 then g 6 (20 + 3 * i + k) else vT (g 6) i (k - 3)))]) (rest := []) (c_X5_tells l D yc t1 t2 a A g 1 (if k < 3 then g 6 (20 + 3 * i + k) else vT (g 6) i (k - 3))) (cwV 2 C.hts gX5_beast_X5_tells rfl rfl rfl (by decide +kernel) ⟨by decide, by decide⟩) (fun H hP => va_recv C.hK hP (ci := 5) (q0 := (0 : Int).toNat) rfl (wo_is (by omega) (by omega) ct_mod)) rfl rfl (Nat.le_of_ble_eq_true rfl) dX5_beast_25 ?_
      intro r9 g9 h9
      rw [h9.1, h9.2]
      clear h9 g9 r9
      try dsimp only
      refine v_goto (tgt := 32) C dX5_beast_28 (by decide) ?_
      exact v_ret_i C rfl dX5_beast_32 ⟨(by repeat (first | rfl | rw [if_pos (by omega)] | rw [if_neg (by omega)])), (by first | rw [if_pos (show (i < 0 ∨ g 6 0 ≤ i) ∨ (k < 0 ∨ 4 < k) by omega)] | rw [if_neg (show ¬ ((i < 0 ∨ g 6 0 ≤ i) ∨ (k < 0 ∨ 4 < k)) by omega)])⟩

set_option maxRecDepth 100000 in
set_option maxHeartbeats 4000000 in
theorem c_X5_isOf (l : Launch) (D : va_G) (yc : Nat → ClassId) (t1 t2 : Nat) (a : Int → Nat) (A : Nat → Prop) (g : Mm) (i w : Int) (hi : 0 ≤ i ∧ i < 6) (hk : 0 ≤ g 6 (20 + 3 * i) ∧ g 6 (20 + 3 * i) ≤ 5) (hw : R32 w) : Ci l yX5_isOf wsX5_isOf { frames := 1, cells := 0, slots := 0, locals := 21 } D yc t1 t2 A (mw a yc) [.ref (a (0)), .int (iI (i)), .int (iI (w))] g (fun r9 g' => r9 = (bI (w = g 6 (20 + 3 * i) ∨ (g 6 (20 + 3 * i) = 4 ∧ w = 2) ∨ (g 6 (20 + 3 * i) = 5 ∧ w = 3))) ∧ g' = g) := by
  refine start_i (cc := cX5_isOf) (nL := 4) (ret := (some .boolean)) (own := RX5) (by decide +kernel) rfl rfl (Nat.le_of_ble_eq_true rfl) ?_
  intro p e s m9 below meth c9 C
  refine v_lv (lv' := [(0, .ref (a (0))), (1, .int (iI (i))), (2, .int (iI (w)))]) rfl ?_
  refine v_aload_n C 0 dX5_isOf_0 rfl ?_
  refine v_iload_n C 1 dX5_isOf_1 rfl ?_
  refine v_cV_i C (As := [.int (iI (i))]) (rest := []) (c_X5_kindIn l D yc t1 t2 a A g i (by omega)) (cwV 1 C.hts gX5_isOf_X5_kindIn rfl rfl rfl (by decide +kernel) ⟨by decide, by decide⟩) (fun H hP => va_recv C.hK hP (ci := 5) (q0 := (0 : Int).toNat) rfl (wo_is (by omega) (by omega) ct_mod)) rfl rfl (Nat.le_of_ble_eq_true rfl) dX5_isOf_2 ?_
  intro r9 g9 h9
  rw [h9.1, h9.2]
  clear h9 g9 r9
  try dsimp only
  refine v_istore_n (lv' := [(3, .int (iI (g 6 (20 + 3 * i)))), (0, .ref (a (0))), (1, .int (iI (i))), (2, .int (iI (w)))]) C dX5_isOf_5 (by decide) rfl ?_
  refine v_iload_n C 0 dX5_isOf_6 rfl ?_
  refine v_iload_n C 3 dX5_isOf_7 rfl ?_
  refine v_icmp_eq (tgt := 31) C dX5_isOf_8 (by decide) (by omega) (by omega) (fun c8 => ?_) (fun c8 => ?_)
  · skip
    refine v_iconst C dX5_isOf_31 ?_
    refine v_goto (tgt := 36) C dX5_isOf_32 (by decide) ?_
    exact v_ret_z C rfl (Or.inr rfl) dX5_isOf_36 ⟨(bI_t (by omega)), rfl⟩
  · skip
    refine v_iload_n C 0 dX5_isOf_11 rfl ?_
    refine v_iconst C dX5_isOf_12 ?_
    refine v_icmp_ne (tgt := 21) C dX5_isOf_13 (by decide) (by omega) (by omega) (fun c13 => ?_) (fun c13 => ?_)
    · skip
      refine v_iload_n C 0 dX5_isOf_21 rfl ?_
      refine v_iconst C dX5_isOf_22 ?_
      refine v_icmp_ne (tgt := 35) C dX5_isOf_23 (by decide) (by omega) (by omega) (fun c23 => ?_) (fun c23 => ?_)
      · skip
        refine v_iconst C dX5_isOf_35 ?_
        exact v_ret_z C rfl (Or.inl rfl) dX5_isOf_36 ⟨(bI_f (by omega)), rfl⟩
      · skip
        refine v_iload_n C 3 dX5_isOf_26 rfl ?_
        refine v_iconst C dX5_isOf_27 ?_
        refine v_icmp_ne (tgt := 35) C dX5_isOf_28 (by decide) (by omega) (by omega) (fun c28 => ?_) (fun c28 => ?_)
        · skip
          refine v_iconst C dX5_isOf_35 ?_
          exact v_ret_z C rfl (Or.inl rfl) dX5_isOf_36 ⟨(bI_f (by omega)), rfl⟩
        · skip
          refine v_iconst C dX5_isOf_31 ?_
          refine v_goto (tgt := 36) C dX5_isOf_32 (by decide) ?_
          exact v_ret_z C rfl (Or.inr rfl) dX5_isOf_36 ⟨(bI_t (by omega)), rfl⟩
    · skip
      refine v_iload_n C 3 dX5_isOf_16 rfl ?_
      refine v_iconst C dX5_isOf_17 ?_
      refine v_icmp_eq (tgt := 31) C dX5_isOf_18 (by decide) (by omega) (by omega) (fun c18 => ?_) (fun c18 => ?_)
      · skip
        refine v_iconst C dX5_isOf_31 ?_
        refine v_goto (tgt := 36) C dX5_isOf_32 (by decide) ?_
        exact v_ret_z C rfl (Or.inr rfl) dX5_isOf_36 ⟨(bI_t (by omega)), rfl⟩
      · skip
        refine v_iload_n C 0 dX5_isOf_21 rfl ?_
        refine v_iconst C dX5_isOf_22 ?_
        refine v_icmp_ne (tgt := 35) C dX5_isOf_23 (by decide) (by omega) (by omega) (fun c23 => ?_) (fun c23 => ?_)
        · skip
          refine v_iconst C dX5_isOf_35 ?_
          exact v_ret_z C rfl (Or.inl rfl) dX5_isOf_36 ⟨(bI_f (by omega)), rfl⟩
        · skip
          refine v_iload_n C 3 dX5_isOf_26 rfl ?_
          refine v_iconst C dX5_isOf_27 ?_
          refine v_icmp_ne (tgt := 35) C dX5_isOf_28 (by decide) (by omega) (by omega) (fun c28 => ?_) (fun c28 => ?_)
          · skip
            refine v_iconst C dX5_isOf_35 ?_
            exact v_ret_z C rfl (Or.inl rfl) dX5_isOf_36 ⟨(bI_f (by omega)), rfl⟩
          · skip
            refine v_iconst C dX5_isOf_31 ?_
            refine v_goto (tgt := 36) C dX5_isOf_32 (by decide) ?_
            exact v_ret_z C rfl (Or.inr rfl) dX5_isOf_36 ⟨(bI_t (by omega)), rfl⟩

set_option maxRecDepth 100000 in
set_option maxHeartbeats 4000000 in
theorem c_X5_mark (l : Launch) (D : va_G) (yc : Nat → ClassId) (t1 t2 : Nat) (a : Int → Nat) (A : Nat → Prop) (g : Mm) (i k : Int) (hi : R32 i) (hk : R32 k) (HI : FI (g 6)) : Ci l yX5_mark wsX5_mark { frames := 2, cells := 0, slots := 0, locals := 44 } D yc t1 t2 A (mw a yc) [.ref (a (0)), .int (iI (i)), .int (iI (k))] g (fun r9 g' => r9 = (iI (if (i < 0 ∨ g 6 0 ≤ i) ∨ (k < 1 ∨ 5 < k) then -1 else if ¬ (k = g 6 (20 + 3 * i) ∨ (g 6 (20 + 3 * i) = 4 ∧ k = 2) ∨ (g 6 (20 + 3 * i) = 5 ∧ k = 3)) then -3 else if k = 1 then 2 * g 6 (20 + 3 * i + 1) - vT (g 6) i 0 else if k = 2 then vT (g 6) i 1 - vT (g 6) i 0 else if k = 3 then vT (g 6) i 0 - vT (g 6) i 1 else if k = 4 then sI (fun x => if ¬ x = i ∧ (g 6 (20 + 3 * x) = 2 ∨ g 6 (20 + 3 * x) = 4) ∧ g 6 (20 + 3 * x + 2) = g 6 (20 + 3 * i + 2) then 1 else 0) (g 6 0) else sI (fun x => if vT (g 6) x 0 < vT (g 6) i 0 then 1 else 0) (g 6 0))) ∧ g' = (if (i < 0 ∨ g 6 0 ≤ i) ∨ (k < 1 ∨ 5 < k) then g else if ¬ (k = g 6 (20 + 3 * i) ∨ (g 6 (20 + 3 * i) = 4 ∧ k = 2) ∨ (g 6 (20 + 3 * i) = 5 ∧ k = 3)) then fnM g 3 else g)) := by
  refine start_i (cc := cX5_mark) (nL := 5) (ret := (some .int)) (own := RX5) (by decide +kernel) rfl rfl (Nat.le_of_ble_eq_true rfl) ?_
  intro p e s m9 below meth c9 C
  have wf25 : Cond.fieldLink RX5 25 (TX5 5).1 (TX5 5).2.1 (TX5 5).2.2.1 ∈ wsX5_mark := by decide +kernel
  have hinX5 : ∀ w ∈ u_ws RX5 TX5 17, w ∈ wsX5_mark := by decide +kernel
  have hn := HI.n
  refine v_lv (lv' := [(0, .ref (a (0))), (1, .int (iI (i))), (2, .int (iI (k)))]) rfl ?_
  refine v_aload_n C 0 dX5_mark_0 rfl ?_
  refine v_iload_n C 1 dX5_mark_1 rfl ?_
  refine v_cV_i C (As := [.int (iI (i))]) (rest := []) (c_X5_isBeast l D yc t1 t2 a A g i (by omega) HI) (cwV 1 C.hts gX5_mark_X5_isBeast rfl rfl rfl (by decide +kernel) ⟨by decide, by decide⟩) (fun H hP => va_recv C.hK hP (ci := 5) (q0 := (0 : Int).toNat) rfl (wo_is (by omega) (by omega) ct_mod)) rfl rfl (Nat.le_of_ble_eq_true rfl) dX5_mark_2 ?_
  intro r9 g9 h9
  rw [h9.1, h9.2]
  clear h9 g9 r9
  try dsimp only
  refine v_ifb_eq (tgt := 17) C dX5_mark_5 (by decide) (fun c5 => ?_) (fun c5 => ?_)
  · skip
    refine v_iconst C dX5_mark_17 ?_
    exact v_ret_i C rfl dX5_mark_18 ⟨(by repeat (first | rfl | rw [if_pos (by omega)] | rw [if_neg (by omega)])), (by repeat (first | rfl | rw [if_pos (by omega)] | rw [if_neg (by omega)]))⟩
  · skip
    refine v_iload_n C 2 dX5_mark_8 rfl ?_
    refine v_iconst C dX5_mark_9 ?_
    refine v_iconst C dX5_mark_10 ?_
    refine v_cS_i C (As := [.int (iI (k)), .int (iI (1)), .int (iI (5))]) (rest := []) (c_X5_in l D yc t1 t2 A (mw a yc) g k 1 5 (by omega) (by omega) (by omega)) (va_cwS 3 C.hts gX5_mark_X5_in rfl rfl rfl (by decide +kernel) ⟨by decide, by decide⟩) rfl rfl (Nat.le_of_ble_eq_true rfl) dX5_mark_11 ?_
    intro r9 g9 h9
    rw [h9.1, h9.2]
    clear h9 g9 r9
    try dsimp only
    refine v_ifb_ne (tgt := 19) C dX5_mark_14 (by decide) (fun c14 => ?_) (fun c14 => ?_)
    · skip
      have hb := HI.b (i := i) (by omega) (by omega)
      refine v_aload_n C 0 dX5_mark_19 rfl ?_
      refine v_iload_n C 1 dX5_mark_20 rfl ?_
      refine v_iload_n C 2 dX5_mark_21 rfl ?_
      refine v_cV_i C (As := [.int (iI (i)), .int (iI (k))]) (rest := []) (c_X5_isOf l D yc t1 t2 a A g i k (by omega) (by omega) (by omega)) (cwV 2 C.hts gX5_mark_X5_isOf rfl rfl rfl (by decide +kernel) ⟨by decide, by decide⟩) (fun H hP => va_recv C.hK hP (ci := 5) (q0 := (0 : Int).toNat) rfl (wo_is (by omega) (by omega) ct_mod)) rfl rfl (Nat.le_of_ble_eq_true rfl) dX5_mark_22 ?_
      intro r9 g9 h9
      rw [h9.1, h9.2]
      clear h9 g9 r9
      try dsimp only
      refine v_ifb_ne (tgt := 34) C dX5_mark_25 (by decide) (fun c25 => ?_) (fun c25 => ?_)
      · skip
        refine v_iconst C dX5_mark_34 ?_
        refine v_istore_n (lv' := [(3, .int (iI (0))), (0, .ref (a (0))), (1, .int (iI (i))), (2, .int (iI (k)))]) C dX5_mark_35 (by decide) rfl ?_
        refine v_iload_n C 3 dX5_mark_36 rfl ?_
        rcases (show k = 1 ∨ k = 2 ∨ k = 3 ∨ k = 4 ∨ (k < 1 ∨ 4 < k) by omega) with c37 | c37 | c37 | c37 | c37
        · refine v_tin (off := 31) (tgt := 68) C 1 dX5_mark_37 c37 (by decide) (by decide) (by decide) rfl (by decide) ?_
          refine v_iconst C dX5_mark_68 ?_
          refine v_aload_n C 1 dX5_mark_69 rfl ?_
          refine v_getf C (by omega) (by omega) ct_mod rfl 5 (by decide) wf25 hinX5 rfl dX5_mark_70 ?_
          refine v_bipush C dX5_mark_73 (by decide) ?_
          refine v_iconst C dX5_mark_75 ?_
          refine v_iload_n C 2 dX5_mark_76 rfl ?_
          refine v_imul C dX5_mark_77 ?_
          refine v_iadd C dX5_mark_78 ?_
          refine v_iconst C dX5_mark_79 ?_
          refine v_iadd C dX5_mark_80 ?_
          refine v_iaload C (by omega) (by omega) ct_mnow (by omega) (by omega) (by decide) dX5_mark_81 ?_
          refine v_imul C dX5_mark_82 ?_
          refine v_aload_n C 1 dX5_mark_83 rfl ?_
          refine v_iload_n C 2 dX5_mark_84 rfl ?_
          refine v_iconst C dX5_mark_85 ?_
          refine v_cV_i C (As := [.int (iI (i)), .int (iI (0))]) (rest := [.int (iI (2 * (g (6) ((20 + (3 * i)) + 1))))]) (c_X5_valueTo l D yc t1 t2 a A g i 0 (by omega) (by omega) (by omega)) (cwV 2 C.hts gX5_mark_X5_valueTo rfl rfl rfl (by decide +kernel) ⟨by decide, by decide⟩) (fun H hP => va_recv C.hK hP (ci := 5) (q0 := (0 : Int).toNat) rfl (wo_is (by omega) (by omega) ct_mod)) rfl rfl (Nat.le_of_ble_eq_true rfl) dX5_mark_86 ?_
          intro r9 g9 h9
          rw [h9.1, h9.2]
          clear h9 g9 r9
          try dsimp only
          refine v_isub C dX5_mark_89 ?_
          exact v_ret_i C rfl dX5_mark_90 ⟨(by repeat (first | rfl | rw [if_pos (by omega)] | rw [if_neg (by omega)])), (by repeat (first | rfl | rw [if_pos (by omega)] | rw [if_neg (by omega)]))⟩
        · refine v_tin (off := 54) (tgt := 91) C 2 dX5_mark_37 c37 (by decide) (by decide) (by decide) rfl (by decide) ?_
          refine v_aload_n C 1 dX5_mark_91 rfl ?_
          refine v_iload_n C 2 dX5_mark_92 rfl ?_
          refine v_iconst C dX5_mark_93 ?_
          refine v_cV_i C (As := [.int (iI (i)), .int (iI (1))]) (rest := []) (c_X5_valueTo l D yc t1 t2 a A g i 1 (by omega) (by omega) (by omega)) (cwV 2 C.hts gX5_mark_X5_valueTo rfl rfl rfl (by decide +kernel) ⟨by decide, by decide⟩) (fun H hP => va_recv C.hK hP (ci := 5) (q0 := (0 : Int).toNat) rfl (wo_is (by omega) (by omega) ct_mod)) rfl rfl (Nat.le_of_ble_eq_true rfl) dX5_mark_94 ?_
          intro r9 g9 h9
          rw [h9.1, h9.2]
          clear h9 g9 r9
          try dsimp only
          refine v_aload_n C 1 dX5_mark_97 rfl ?_
          refine v_iload_n C 2 dX5_mark_98 rfl ?_
          refine v_iconst C dX5_mark_99 ?_
          refine v_cV_i C (As := [.int (iI (i)), .int (iI (0))]) (rest := [.int (iI (vT (g 6) i 1))]) (c_X5_valueTo l D yc t1 t2 a A g i 0 (by omega) (by omega) (by omega)) (cwV 2 C.hts gX5_mark_X5_valueTo rfl rfl rfl (by decide +kernel) ⟨by decide, by decide⟩) (fun H hP => va_recv C.hK hP (ci := 5) (q0 := (0 : Int).toNat) rfl (wo_is (by omega) (by omega) ct_mod)) rfl rfl (Nat.le_of_ble_eq_true rfl) dX5_mark_100 ?_
          intro r9 g9 h9
          rw [h9.1, h9.2]
          clear h9 g9 r9
          try dsimp only
          refine v_isub C dX5_mark_103 ?_
          exact v_ret_i C rfl dX5_mark_104 ⟨(by repeat (first | rfl | rw [if_pos (by omega)] | rw [if_neg (by omega)])), (by repeat (first | rfl | rw [if_pos (by omega)] | rw [if_neg (by omega)]))⟩
        · refine v_tin (off := 68) (tgt := 105) C 3 dX5_mark_37 c37 (by decide) (by decide) (by decide) rfl (by decide) ?_
          refine v_aload_n C 1 dX5_mark_105 rfl ?_
          refine v_iload_n C 2 dX5_mark_106 rfl ?_
          refine v_iconst C dX5_mark_107 ?_
          refine v_cV_i C (As := [.int (iI (i)), .int (iI (0))]) (rest := []) (c_X5_valueTo l D yc t1 t2 a A g i 0 (by omega) (by omega) (by omega)) (cwV 2 C.hts gX5_mark_X5_valueTo rfl rfl rfl (by decide +kernel) ⟨by decide, by decide⟩) (fun H hP => va_recv C.hK hP (ci := 5) (q0 := (0 : Int).toNat) rfl (wo_is (by omega) (by omega) ct_mod)) rfl rfl (Nat.le_of_ble_eq_true rfl) dX5_mark_108 ?_
          intro r9 g9 h9
          rw [h9.1, h9.2]
          clear h9 g9 r9
          try dsimp only
          refine v_aload_n C 1 dX5_mark_111 rfl ?_
          refine v_iload_n C 2 dX5_mark_112 rfl ?_
          refine v_iconst C dX5_mark_113 ?_
          refine v_cV_i C (As := [.int (iI (i)), .int (iI (1))]) (rest := [.int (iI (vT (g 6) i 0))]) (c_X5_valueTo l D yc t1 t2 a A g i 1 (by omega) (by omega) (by omega)) (cwV 2 C.hts gX5_mark_X5_valueTo rfl rfl rfl (by decide +kernel) ⟨by decide, by decide⟩) (fun H hP => va_recv C.hK hP (ci := 5) (q0 := (0 : Int).toNat) rfl (wo_is (by omega) (by omega) ct_mod)) rfl rfl (Nat.le_of_ble_eq_true rfl) dX5_mark_114 ?_
          intro r9 g9 h9
          rw [h9.1, h9.2]
          clear h9 g9 r9
          try dsimp only
          refine v_isub C dX5_mark_117 ?_
          exact v_ret_i C rfl dX5_mark_118 ⟨(by repeat (first | rfl | rw [if_pos (by omega)] | rw [if_neg (by omega)])), (by repeat (first | rfl | rw [if_pos (by omega)] | rw [if_neg (by omega)]))⟩
        · refine v_tin (off := 82) (tgt := 119) C 4 dX5_mark_37 c37 (by decide) (by decide) (by decide) rfl (by decide) ?_
          refine v_iconst C dX5_mark_119 ?_
          refine v_istore (lv' := [(4, .int (iI (0))), (3, .int (iI (0))), (0, .ref (a (0))), (1, .int (iI (i))), (2, .int (iI (k)))]) C dX5_mark_120 (by decide) rfl ?_
          refine v_lv (congrArg (fun x9 => ([(4, .int (iI (0))), (3, .int (iI x9)), (0, .ref (a (0))), (1, .int (iI (i))), (2, .int (iI (k)))] : List (Nat × Value))) (show (0) = (sI (fun x => if ¬ x = i ∧ (g 6 (20 + 3 * x) = 2 ∨ g 6 (20 + 3 * x) = 4) ∧ g 6 (20 + 3 * x + 2) = g 6 (20 + 3 * i + 2) then 1 else 0) 0) by first | rfl | omega | (simp; done))) ?_
          refine v_loop1 (fun (t : Int) => (g 6 0 - t).toNat) (fun (t : Int) => 0 ≤ t ∧ t ≤ g 6 0) (fun (t : Int) => [(4, .int (iI (t))), (3, .int (iI (sI (fun x => if ¬ x = i ∧ (g 6 (20 + 3 * x) = 2 ∨ g 6 (20 + 3 * x) = 4) ∧ g 6 (20 + 3 * x + 2) = g 6 (20 + 3 * i + 2) then 1 else 0) t))), (0, .ref (a (0))), (1, .int (iI (i))), (2, .int (iI (k)))]) (fun (t : Int) => g) ?_ 0 (by omega)
          intro t hI122 ih122
          try dsimp only at ih122 ⊢
          refine v_iload C 0 dX5_mark_122 rfl ?_
          refine v_aload_n C 2 dX5_mark_124 rfl ?_
          refine v_getf C (by omega) (by omega) ct_mod rfl 5 (by decide) wf25 hinX5 rfl dX5_mark_125 ?_
          refine v_iconst C dX5_mark_128 ?_
          refine v_iaload C (by omega) (by omega) ct_mnow (by omega) (by omega) (by decide) dX5_mark_129 ?_
          refine v_icmp_ge (tgt := 177) C dX5_mark_130 (by decide) (by omega) (by omega) (fun c130 => ?_) (fun c130 => ?_)
          · skip
            refine v_iload_n C 1 dX5_mark_177 rfl ?_
            exact v_ret_i C rfl dX5_mark_178 ⟨(by rw [show t = g 6 0 by omega]; repeat (first | rfl | rw [if_pos (by omega)] | rw [if_neg (by omega)])), (by repeat (first | rfl | rw [if_pos (by omega)] | rw [if_neg (by omega)]))⟩
          · skip
            have hx := HI.b (i := t) (by omega) (by omega)
            refine v_iload_n C 1 dX5_mark_133 rfl ?_
            refine v_iload C 0 dX5_mark_134 rfl ?_
            refine v_iload_n C 3 dX5_mark_136 rfl ?_
            refine v_icmp_eq (tgt := 168) C dX5_mark_137 (by decide) (by omega) (by omega) (fun c137 => ?_) (fun c137 => ?_)
            · skip
              refine v_iconst C dX5_mark_168 ?_
              refine v_iadd C dX5_mark_169 ?_
              refine v_istore_n (lv' := [(3, .int (iI ((sI (fun x => if ¬ x = i ∧ (g 6 (20 + 3 * x) = 2 ∨ g 6 (20 + 3 * x) = 4) ∧ g 6 (20 + 3 * x + 2) = g 6 (20 + 3 * i + 2) then 1 else 0) t) + 0))), (4, .int (iI (t))), (0, .ref (a (0))), (1, .int (iI (i))), (2, .int (iI (k)))]) C dX5_mark_170 (by decide) rfl ?_
              refine v_iinc (z' := t + 1) (lv' := [(4, .int (iI (t + 1))), (3, .int (iI ((sI (fun x => if ¬ x = i ∧ (g 6 (20 + 3 * x) = 2 ∨ g 6 (20 + 3 * x) = 4) ∧ g 6 (20 + 3 * x + 2) = g 6 (20 + 3 * i + 2) then 1 else 0) t) + 0))), (0, .ref (a (0))), (1, .int (iI (i))), (2, .int (iI (k)))]) C 1 dX5_mark_171 rfl (by omega) (by decide) rfl ?_
              refine v_goto (tgt := 122) C dX5_mark_174 (by decide) ?_
              refine v_lv (congrArg (fun x9 => ([(4, .int (iI (t + 1))), (3, .int (iI x9)), (0, .ref (a (0))), (1, .int (iI (i))), (2, .int (iI (k)))] : List (Nat × Value))) (show ((sI (fun x => if ¬ x = i ∧ (g 6 (20 + 3 * x) = 2 ∨ g 6 (20 + 3 * x) = 4) ∧ g 6 (20 + 3 * x + 2) = g 6 (20 + 3 * i + 2) then 1 else 0) t) + 0) = (sI (fun x => if ¬ x = i ∧ (g 6 (20 + 3 * x) = 2 ∨ g 6 (20 + 3 * x) = 4) ∧ g 6 (20 + 3 * x + 2) = g 6 (20 + 3 * i + 2) then 1 else 0) (t + 1)) by first | rfl | (rw [sI_s _ (by omega)]; (first | (rw [if_pos (by omega)]) | (rw [if_neg (by omega)]))))) ?_
              exact ih122 (t + 1) (by omega) (by omega)
            · skip
              refine v_aload_n C 2 dX5_mark_140 rfl ?_
              refine v_iload C 0 dX5_mark_141 rfl ?_
              refine v_iconst C dX5_mark_143 ?_
              refine v_cV_i C (As := [.int (iI (t)), .int (iI (2))]) (rest := [.int (iI (sI (fun x => if ¬ x = i ∧ (g 6 (20 + 3 * x) = 2 ∨ g 6 (20 + 3 * x) = 4) ∧ g 6 (20 + 3 * x + 2) = g 6 (20 + 3 * i + 2) then 1 else 0) t))]) (c_X5_isOf l D yc t1 t2 a A g t 2 (by omega) (by omega) (by omega)) (cwV 2 C.hts gX5_mark_X5_isOf rfl rfl rfl (by decide +kernel) ⟨by decide, by decide⟩) (fun H hP => va_recv C.hK hP (ci := 5) (q0 := (0 : Int).toNat) rfl (wo_is (by omega) (by omega) ct_mod)) rfl rfl (Nat.le_of_ble_eq_true rfl) dX5_mark_144 ?_
              intro r9 g9 h9
              rw [h9.1, h9.2]
              clear h9 g9 r9
              try dsimp only
              refine v_ifb_eq (tgt := 168) C dX5_mark_147 (by decide) (fun c147 => ?_) (fun c147 => ?_)
              · skip
                refine v_iconst C dX5_mark_168 ?_
                refine v_iadd C dX5_mark_169 ?_
                refine v_istore_n (lv' := [(3, .int (iI ((sI (fun x => if ¬ x = i ∧ (g 6 (20 + 3 * x) = 2 ∨ g 6 (20 + 3 * x) = 4) ∧ g 6 (20 + 3 * x + 2) = g 6 (20 + 3 * i + 2) then 1 else 0) t) + 0))), (4, .int (iI (t))), (0, .ref (a (0))), (1, .int (iI (i))), (2, .int (iI (k)))]) C dX5_mark_170 (by decide) rfl ?_
                refine v_iinc (z' := t + 1) (lv' := [(4, .int (iI (t + 1))), (3, .int (iI ((sI (fun x => if ¬ x = i ∧ (g 6 (20 + 3 * x) = 2 ∨ g 6 (20 + 3 * x) = 4) ∧ g 6 (20 + 3 * x + 2) = g 6 (20 + 3 * i + 2) then 1 else 0) t) + 0))), (0, .ref (a (0))), (1, .int (iI (i))), (2, .int (iI (k)))]) C 1 dX5_mark_171 rfl (by omega) (by decide) rfl ?_
                refine v_goto (tgt := 122) C dX5_mark_174 (by decide) ?_
                refine v_lv (congrArg (fun x9 => ([(4, .int (iI (t + 1))), (3, .int (iI x9)), (0, .ref (a (0))), (1, .int (iI (i))), (2, .int (iI (k)))] : List (Nat × Value))) (show ((sI (fun x => if ¬ x = i ∧ (g 6 (20 + 3 * x) = 2 ∨ g 6 (20 + 3 * x) = 4) ∧ g 6 (20 + 3 * x + 2) = g 6 (20 + 3 * i + 2) then 1 else 0) t) + 0) = (sI (fun x => if ¬ x = i ∧ (g 6 (20 + 3 * x) = 2 ∨ g 6 (20 + 3 * x) = 4) ∧ g 6 (20 + 3 * x + 2) = g 6 (20 + 3 * i + 2) then 1 else 0) (t + 1)) by first | rfl | (rw [sI_s _ (by omega)]; (first | (rw [if_pos (by omega)]) | (rw [if_neg (by omega)]))))) ?_
                exact ih122 (t + 1) (by omega) (by omega)
              · skip
                refine v_aload_n C 2 dX5_mark_150 rfl ?_
                refine v_iload C 0 dX5_mark_151 rfl ?_
                refine v_cV_i C (As := [.int (iI (t))]) (rest := [.int (iI (sI (fun x => if ¬ x = i ∧ (g 6 (20 + 3 * x) = 2 ∨ g 6 (20 + 3 * x) = 4) ∧ g 6 (20 + 3 * x + 2) = g 6 (20 + 3 * i + 2) then 1 else 0) t))]) (c_X5_ownerOf l D yc t1 t2 a A g t (by omega)) (cwV 1 C.hts gX5_mark_X5_ownerOf rfl rfl rfl (by decide +kernel) ⟨by decide, by decide⟩) (fun H hP => va_recv C.hK hP (ci := 5) (q0 := (0 : Int).toNat) rfl (wo_is (by omega) (by omega) ct_mod)) rfl rfl (Nat.le_of_ble_eq_true rfl) dX5_mark_153 ?_
                intro r9 g9 h9
                rw [h9.1, h9.2]
                clear h9 g9 r9
                try dsimp only
                refine v_aload_n C 2 dX5_mark_156 rfl ?_
                refine v_iload_n C 3 dX5_mark_157 rfl ?_
                refine v_cV_i C (As := [.int (iI (i))]) (rest := [.int (iI (g 6 (20 + 3 * t + 2))), .int (iI (sI (fun x => if ¬ x = i ∧ (g 6 (20 + 3 * x) = 2 ∨ g 6 (20 + 3 * x) = 4) ∧ g 6 (20 + 3 * x + 2) = g 6 (20 + 3 * i + 2) then 1 else 0) t))]) (c_X5_ownerOf l D yc t1 t2 a A g i (by omega)) (cwV 1 C.hts gX5_mark_X5_ownerOf rfl rfl rfl (by decide +kernel) ⟨by decide, by decide⟩) (fun H hP => va_recv C.hK hP (ci := 5) (q0 := (0 : Int).toNat) rfl (wo_is (by omega) (by omega) ct_mod)) rfl rfl (Nat.le_of_ble_eq_true rfl) dX5_mark_158 ?_
                intro r9 g9 h9
                rw [h9.1, h9.2]
                clear h9 g9 r9
                try dsimp only
                refine v_icmp_ne (tgt := 168) C dX5_mark_161 (by decide) (by omega) (by omega) (fun c161 => ?_) (fun c161 => ?_)
                · skip
                  refine v_iconst C dX5_mark_168 ?_
                  refine v_iadd C dX5_mark_169 ?_
                  refine v_istore_n (lv' := [(3, .int (iI ((sI (fun x => if ¬ x = i ∧ (g 6 (20 + 3 * x) = 2 ∨ g 6 (20 + 3 * x) = 4) ∧ g 6 (20 + 3 * x + 2) = g 6 (20 + 3 * i + 2) then 1 else 0) t) + 0))), (4, .int (iI (t))), (0, .ref (a (0))), (1, .int (iI (i))), (2, .int (iI (k)))]) C dX5_mark_170 (by decide) rfl ?_
                  refine v_iinc (z' := t + 1) (lv' := [(4, .int (iI (t + 1))), (3, .int (iI ((sI (fun x => if ¬ x = i ∧ (g 6 (20 + 3 * x) = 2 ∨ g 6 (20 + 3 * x) = 4) ∧ g 6 (20 + 3 * x + 2) = g 6 (20 + 3 * i + 2) then 1 else 0) t) + 0))), (0, .ref (a (0))), (1, .int (iI (i))), (2, .int (iI (k)))]) C 1 dX5_mark_171 rfl (by omega) (by decide) rfl ?_
                  refine v_goto (tgt := 122) C dX5_mark_174 (by decide) ?_
                  refine v_lv (congrArg (fun x9 => ([(4, .int (iI (t + 1))), (3, .int (iI x9)), (0, .ref (a (0))), (1, .int (iI (i))), (2, .int (iI (k)))] : List (Nat × Value))) (show ((sI (fun x => if ¬ x = i ∧ (g 6 (20 + 3 * x) = 2 ∨ g 6 (20 + 3 * x) = 4) ∧ g 6 (20 + 3 * x + 2) = g 6 (20 + 3 * i + 2) then 1 else 0) t) + 0) = (sI (fun x => if ¬ x = i ∧ (g 6 (20 + 3 * x) = 2 ∨ g 6 (20 + 3 * x) = 4) ∧ g 6 (20 + 3 * x + 2) = g 6 (20 + 3 * i + 2) then 1 else 0) (t + 1)) by first | rfl | (rw [sI_s _ (by omega)]; (first | (rw [if_pos (by omega)]) | (rw [if_neg (by omega)]))))) ?_
                  exact ih122 (t + 1) (by omega) (by omega)
                · skip
                  refine v_iconst C dX5_mark_164 ?_
                  refine v_goto (tgt := 169) C dX5_mark_165 (by decide) ?_
                  refine v_iadd C dX5_mark_169 ?_
                  refine v_istore_n (lv' := [(3, .int (iI ((sI (fun x => if ¬ x = i ∧ (g 6 (20 + 3 * x) = 2 ∨ g 6 (20 + 3 * x) = 4) ∧ g 6 (20 + 3 * x + 2) = g 6 (20 + 3 * i + 2) then 1 else 0) t) + 1))), (4, .int (iI (t))), (0, .ref (a (0))), (1, .int (iI (i))), (2, .int (iI (k)))]) C dX5_mark_170 (by decide) rfl ?_
                  refine v_iinc (z' := t + 1) (lv' := [(4, .int (iI (t + 1))), (3, .int (iI ((sI (fun x => if ¬ x = i ∧ (g 6 (20 + 3 * x) = 2 ∨ g 6 (20 + 3 * x) = 4) ∧ g 6 (20 + 3 * x + 2) = g 6 (20 + 3 * i + 2) then 1 else 0) t) + 1))), (0, .ref (a (0))), (1, .int (iI (i))), (2, .int (iI (k)))]) C 1 dX5_mark_171 rfl (by omega) (by decide) rfl ?_
                  refine v_goto (tgt := 122) C dX5_mark_174 (by decide) ?_
                  refine v_lv (congrArg (fun x9 => ([(4, .int (iI (t + 1))), (3, .int (iI x9)), (0, .ref (a (0))), (1, .int (iI (i))), (2, .int (iI (k)))] : List (Nat × Value))) (show ((sI (fun x => if ¬ x = i ∧ (g 6 (20 + 3 * x) = 2 ∨ g 6 (20 + 3 * x) = 4) ∧ g 6 (20 + 3 * x + 2) = g 6 (20 + 3 * i + 2) then 1 else 0) t) + 1) = (sI (fun x => if ¬ x = i ∧ (g 6 (20 + 3 * x) = 2 ∨ g 6 (20 + 3 * x) = 4) ∧ g 6 (20 + 3 * x + 2) = g 6 (20 + 3 * i + 2) then 1 else 0) (t + 1)) by first | rfl | (rw [sI_s _ (by omega)]; (first | (rw [if_pos (by omega)]) | (rw [if_neg (by omega)]))))) ?_
                  exact ih122 (t + 1) (by omega) (by omega)
        · refine v_tout (tgt := 179) C dX5_mark_37 (by omega) c37 (by decide) ?_
          refine v_iconst C dX5_mark_179 ?_
          refine v_istore (lv' := [(4, .int (iI (0))), (3, .int (iI (0))), (0, .ref (a (0))), (1, .int (iI (i))), (2, .int (iI (k)))]) C dX5_mark_180 (by decide) rfl ?_
          refine v_lv (congrArg (fun x9 => ([(4, .int (iI (0))), (3, .int (iI x9)), (0, .ref (a (0))), (1, .int (iI (i))), (2, .int (iI (k)))] : List (Nat × Value))) (show (0) = (sI (fun x => if vT (g 6) x 0 < vT (g 6) i 0 then 1 else 0) 0) by first | rfl | omega | (simp; done))) ?_
          refine v_loop1 (fun (t : Int) => (g 6 0 - t).toNat) (fun (t : Int) => 0 ≤ t ∧ t ≤ g 6 0) (fun (t : Int) => [(4, .int (iI (t))), (3, .int (iI (sI (fun x => if vT (g 6) x 0 < vT (g 6) i 0 then 1 else 0) t))), (0, .ref (a (0))), (1, .int (iI (i))), (2, .int (iI (k)))]) (fun (t : Int) => g) ?_ 0 (by omega)
          intro t hI182 ih182
          try dsimp only at ih182 ⊢
          refine v_iload C 0 dX5_mark_182 rfl ?_
          refine v_aload_n C 2 dX5_mark_184 rfl ?_
          refine v_getf C (by omega) (by omega) ct_mod rfl 5 (by decide) wf25 hinX5 rfl dX5_mark_185 ?_
          refine v_iconst C dX5_mark_188 ?_
          refine v_iaload C (by omega) (by omega) ct_mnow (by omega) (by omega) (by decide) dX5_mark_189 ?_
          refine v_icmp_ge (tgt := 223) C dX5_mark_190 (by decide) (by omega) (by omega) (fun c190 => ?_) (fun c190 => ?_)
          · skip
            refine v_iload_n C 1 dX5_mark_223 rfl ?_
            exact v_ret_i C rfl dX5_mark_224 ⟨(by rw [show t = g 6 0 by omega]; repeat (first | rfl | rw [if_pos (by omega)] | rw [if_neg (by omega)])), (by repeat (first | rfl | rw [if_pos (by omega)] | rw [if_neg (by omega)]))⟩
          · skip
            have hx := HI.b (i := t) (by omega) (by omega)
            have hv := vT_bd HI (i := t) (by omega) (by omega) (q := 0) (by omega)
            have hv2 := vT_bd HI (i := i) (by omega) (by omega) (q := 0) (by omega)
            refine v_iload_n C 1 dX5_mark_193 rfl ?_
            refine v_aload_n C 2 dX5_mark_194 rfl ?_
            refine v_iload C 0 dX5_mark_195 rfl ?_
            refine v_iconst C dX5_mark_197 ?_
            refine v_cV_i C (As := [.int (iI (t)), .int (iI (0))]) (rest := [.int (iI (sI (fun x => if vT (g 6) x 0 < vT (g 6) i 0 then 1 else 0) t))]) (c_X5_valueTo l D yc t1 t2 a A g t 0 (by omega) (by omega) (by omega)) (cwV 2 C.hts gX5_mark_X5_valueTo rfl rfl rfl (by decide +kernel) ⟨by decide, by decide⟩) (fun H hP => va_recv C.hK hP (ci := 5) (q0 := (0 : Int).toNat) rfl (wo_is (by omega) (by omega) ct_mod)) rfl rfl (Nat.le_of_ble_eq_true rfl) dX5_mark_198 ?_
            intro r9 g9 h9
            rw [h9.1, h9.2]
            clear h9 g9 r9
            try dsimp only
            refine v_aload_n C 2 dX5_mark_201 rfl ?_
            refine v_iload_n C 3 dX5_mark_202 rfl ?_
            refine v_iconst C dX5_mark_203 ?_
            refine v_cV_i C (As := [.int (iI (i)), .int (iI (0))]) (rest := [.int (iI (vT (g 6) t 0)), .int (iI (sI (fun x => if vT (g 6) x 0 < vT (g 6) i 0 then 1 else 0) t))]) (c_X5_valueTo l D yc t1 t2 a A g i 0 (by omega) (by omega) (by omega)) (cwV 2 C.hts gX5_mark_X5_valueTo rfl rfl rfl (by decide +kernel) ⟨by decide, by decide⟩) (fun H hP => va_recv C.hK hP (ci := 5) (q0 := (0 : Int).toNat) rfl (wo_is (by omega) (by omega) ct_mod)) rfl rfl (Nat.le_of_ble_eq_true rfl) dX5_mark_204 ?_
            intro r9 g9 h9
            rw [h9.1, h9.2]
            clear h9 g9 r9
            try dsimp only
            refine v_icmp_ge (tgt := 214) C dX5_mark_207 (by decide) (by omega) (by omega) (fun c207 => ?_) (fun c207 => ?_)
            · skip
              refine v_iconst C dX5_mark_214 ?_
              refine v_iadd C dX5_mark_215 ?_
              refine v_istore_n (lv' := [(3, .int (iI ((sI (fun x => if vT (g 6) x 0 < vT (g 6) i 0 then 1 else 0) t) + 0))), (4, .int (iI (t))), (0, .ref (a (0))), (1, .int (iI (i))), (2, .int (iI (k)))]) C dX5_mark_216 (by decide) rfl ?_
              refine v_iinc (z' := t + 1) (lv' := [(4, .int (iI (t + 1))), (3, .int (iI ((sI (fun x => if vT (g 6) x 0 < vT (g 6) i 0 then 1 else 0) t) + 0))), (0, .ref (a (0))), (1, .int (iI (i))), (2, .int (iI (k)))]) C 1 dX5_mark_217 rfl (by omega) (by decide) rfl ?_
              refine v_goto (tgt := 182) C dX5_mark_220 (by decide) ?_
              refine v_lv (congrArg (fun x9 => ([(4, .int (iI (t + 1))), (3, .int (iI x9)), (0, .ref (a (0))), (1, .int (iI (i))), (2, .int (iI (k)))] : List (Nat × Value))) (show ((sI (fun x => if vT (g 6) x 0 < vT (g 6) i 0 then 1 else 0) t) + 0) = (sI (fun x => if vT (g 6) x 0 < vT (g 6) i 0 then 1 else 0) (t + 1)) by first | rfl | (rw [sI_s _ (by omega)]; (first | (rw [if_pos (by omega)]) | (rw [if_neg (by omega)]))))) ?_
              exact ih182 (t + 1) (by omega) (by omega)
            · skip
              refine v_iconst C dX5_mark_210 ?_
              refine v_goto (tgt := 215) C dX5_mark_211 (by decide) ?_
              refine v_iadd C dX5_mark_215 ?_
              refine v_istore_n (lv' := [(3, .int (iI ((sI (fun x => if vT (g 6) x 0 < vT (g 6) i 0 then 1 else 0) t) + 1))), (4, .int (iI (t))), (0, .ref (a (0))), (1, .int (iI (i))), (2, .int (iI (k)))]) C dX5_mark_216 (by decide) rfl ?_
              refine v_iinc (z' := t + 1) (lv' := [(4, .int (iI (t + 1))), (3, .int (iI ((sI (fun x => if vT (g 6) x 0 < vT (g 6) i 0 then 1 else 0) t) + 1))), (0, .ref (a (0))), (1, .int (iI (i))), (2, .int (iI (k)))]) C 1 dX5_mark_217 rfl (by omega) (by decide) rfl ?_
              refine v_goto (tgt := 182) C dX5_mark_220 (by decide) ?_
              refine v_lv (congrArg (fun x9 => ([(4, .int (iI (t + 1))), (3, .int (iI x9)), (0, .ref (a (0))), (1, .int (iI (i))), (2, .int (iI (k)))] : List (Nat × Value))) (show ((sI (fun x => if vT (g 6) x 0 < vT (g 6) i 0 then 1 else 0) t) + 1) = (sI (fun x => if vT (g 6) x 0 < vT (g 6) i 0 then 1 else 0) (t + 1)) by first | rfl | (rw [sI_s _ (by omega)]; (first | (rw [if_pos (by omega)]) | (rw [if_neg (by omega)]))))) ?_
              exact ih182 (t + 1) (by omega) (by omega)
      · skip
        refine v_aload_n C 0 dX5_mark_28 rfl ?_
        refine v_iconst C dX5_mark_29 ?_
        refine v_cV_i C (As := [.int (iI (3))]) (rest := []) (c_X5_finds l D yc t1 t2 a A g 3 (by omega)) (cwV 1 C.hts gX5_mark_X5_finds rfl rfl rfl (by decide +kernel) ⟨by decide, by decide⟩) (fun H hP => va_recv C.hK hP (ci := 5) (q0 := (0 : Int).toNat) rfl (wo_is (by omega) (by omega) ct_mod)) rfl rfl (Nat.le_of_ble_eq_true rfl) dX5_mark_30 ?_
        intro r9 g9 h9
        rw [h9.1, h9.2]
        clear h9 g9 r9
        try dsimp only
        exact v_ret_i C rfl dX5_mark_33 ⟨(by repeat (first | rfl | rw [if_pos (by omega)] | rw [if_neg (by omega)])), (by repeat (first | rfl | rw [if_pos (by omega)] | rw [if_neg (by omega)]))⟩
    · skip
      refine v_iconst C dX5_mark_17 ?_
      exact v_ret_i C rfl dX5_mark_18 ⟨(by repeat (first | rfl | rw [if_pos (by omega)] | rw [if_neg (by omega)])), (by repeat (first | rfl | rw [if_pos (by omega)] | rw [if_neg (by omega)]))⟩

set_option maxRecDepth 100000 in
set_option maxHeartbeats 4000000 in
theorem c_X5_turn (l : Launch) (D : va_G) (yc : Nat → ClassId) (t1 t2 : Nat) (a : Int → Nat) (A : Nat → Prop) (g : Mm) (k q : Int) (hk : R32 k) (hq : R32 q) (HI : FI (g 6)) : Ci l yX5_turn wsX5_turn { frames := 1, cells := 0, slots := 0, locals := 22 } D yc t1 t2 A (mw a yc) [.ref (a (0)), .int (iI (k)), .int (iI (q))] g (fun r9 g' => r9 = (iI (if (k < 0 ∨ g 6 1 ≤ k) ∨ (q < 0 ∨ 1 < q) then -1 else if 0 < g 6 4 then -4 else g 6 (6 + k))) ∧ g' = (if (k < 0 ∨ g 6 1 ≤ k) ∨ (q < 0 ∨ 1 < q) then g else if 0 < g 6 4 then g else ru g 6 (fu (g 6) (6 + k) q))) := by
  refine start_i (cc := cX5_turn) (nL := 4) (ret := (some .int)) (own := RX5) (by decide +kernel) rfl rfl (Nat.le_of_ble_eq_true rfl) ?_
  intro p e s m9 below meth c9 C
  have wf25 : Cond.fieldLink RX5 25 (TX5 5).1 (TX5 5).2.1 (TX5 5).2.2.1 ∈ wsX5_turn := by decide +kernel
  have hinX5 : ∀ w ∈ u_ws RX5 TX5 17, w ∈ wsX5_turn := by decide +kernel
  have hn := HI.n
  refine v_lv (lv' := [(0, .ref (a (0))), (1, .int (iI (k))), (2, .int (iI (q)))]) rfl ?_
  refine v_iload_n C 1 dX5_turn_0 rfl ?_
  refine v_iconst C dX5_turn_1 ?_
  refine v_aload_n C 0 dX5_turn_2 rfl ?_
  refine v_getf C (by omega) (by omega) ct_mod rfl 5 (by decide) wf25 hinX5 rfl dX5_turn_3 ?_
  refine v_iconst C dX5_turn_6 ?_
  refine v_iaload C (by omega) (by omega) ct_mnow (by omega) (by omega) (by decide) dX5_turn_7 ?_
  refine v_iconst C dX5_turn_8 ?_
  refine v_isub C dX5_turn_9 ?_
  refine v_cS_i C (As := [.int (iI (k)), .int (iI (0)), .int (iI ((g (6) (1)) - 1))]) (rest := []) (c_X5_in l D yc t1 t2 A (mw a yc) g k 0 ((g (6) (1)) - 1) (by omega) (by omega) (by omega)) (va_cwS 3 C.hts gX5_turn_X5_in rfl rfl rfl (by decide +kernel) ⟨by decide, by decide⟩) rfl rfl (Nat.le_of_ble_eq_true rfl) dX5_turn_10 ?_
  intro r9 g9 h9
  rw [h9.1, h9.2]
  clear h9 g9 r9
  try dsimp only
  refine v_ifb_eq (tgt := 25) C dX5_turn_13 (by decide) (fun c13 => ?_) (fun c13 => ?_)
  · skip
    refine v_iconst C dX5_turn_25 ?_
    exact v_ret_i C rfl dX5_turn_26 ⟨(by repeat (first | rfl | rw [if_pos (by omega)] | rw [if_neg (by omega)])), (by rw [← mu_ru]; repeat (first | rfl | rw [if_pos (by omega)] | rw [if_neg (by omega)]))⟩
  · skip
    refine v_iload_n C 2 dX5_turn_16 rfl ?_
    refine v_iconst C dX5_turn_17 ?_
    refine v_iconst C dX5_turn_18 ?_
    refine v_cS_i C (As := [.int (iI (q)), .int (iI (0)), .int (iI (1))]) (rest := []) (c_X5_in l D yc t1 t2 A (mw a yc) g q 0 1 (by omega) (by omega) (by omega)) (va_cwS 3 C.hts gX5_turn_X5_in rfl rfl rfl (by decide +kernel) ⟨by decide, by decide⟩) rfl rfl (Nat.le_of_ble_eq_true rfl) dX5_turn_19 ?_
    intro r9 g9 h9
    rw [h9.1, h9.2]
    clear h9 g9 r9
    try dsimp only
    refine v_ifb_ne (tgt := 27) C dX5_turn_22 (by decide) (fun c22 => ?_) (fun c22 => ?_)
    · skip
      refine v_aload_n C 0 dX5_turn_27 rfl ?_
      refine v_getf C (by omega) (by omega) ct_mod rfl 5 (by decide) wf25 hinX5 rfl dX5_turn_28 ?_
      refine v_iconst C dX5_turn_31 ?_
      refine v_iaload C (by omega) (by omega) ct_mnow (by omega) (by omega) (by decide) dX5_turn_32 ?_
      refine v_if_le (tgt := 39) C dX5_turn_33 (by decide) (by omega) (fun c33 => ?_) (fun c33 => ?_)
      · skip
        refine v_aload_n C 0 dX5_turn_39 rfl ?_
        refine v_getf C (by omega) (by omega) ct_mod rfl 5 (by decide) wf25 hinX5 rfl dX5_turn_40 ?_
        refine v_bipush C dX5_turn_43 (by decide) ?_
        refine v_iload_n C 1 dX5_turn_45 rfl ?_
        refine v_iadd C dX5_turn_46 ?_
        refine v_iaload C (by omega) (by omega) ct_mnow (by omega) (by omega) (by decide) dX5_turn_47 ?_
        refine v_istore_n (lv' := [(3, .int (iI (g (6) (6 + k)))), (0, .ref (a (0))), (1, .int (iI (k))), (2, .int (iI (q)))]) C dX5_turn_48 (by decide) rfl ?_
        refine v_aload_n C 1 dX5_turn_49 rfl ?_
        refine v_getf C (by omega) (by omega) ct_mod rfl 5 (by decide) wf25 hinX5 rfl dX5_turn_50 ?_
        refine v_bipush C dX5_turn_53 (by decide) ?_
        refine v_iload_n C 2 dX5_turn_55 rfl ?_
        refine v_iadd C dX5_turn_56 ?_
        refine v_iload_n C 3 dX5_turn_57 rfl ?_
        refine v_iastore C (ctm_L a yc) (by omega) (by omega) ct_mnow (ct_mnow).symm (by omega) (by omega) (by decide) dX5_turn_58 ?_
        refine v_iload_n C 0 dX5_turn_59 rfl ?_
        exact v_ret_i C rfl dX5_turn_60 ⟨(by repeat (first | rfl | rw [if_pos (by omega)] | rw [if_neg (by omega)])), (by rw [← mu_ru]; repeat (first | rfl | rw [if_pos (by omega)] | rw [if_neg (by omega)]))⟩
      · skip
        refine v_bipush C dX5_turn_36 (by decide) ?_
        exact v_ret_i C rfl dX5_turn_38 ⟨(by repeat (first | rfl | rw [if_pos (by omega)] | rw [if_neg (by omega)])), (by rw [← mu_ru]; repeat (first | rfl | rw [if_pos (by omega)] | rw [if_neg (by omega)]))⟩
    · skip
      refine v_iconst C dX5_turn_25 ?_
      exact v_ret_i C rfl dX5_turn_26 ⟨(by repeat (first | rfl | rw [if_pos (by omega)] | rw [if_neg (by omega)])), (by rw [← mu_ru]; repeat (first | rfl | rw [if_pos (by omega)] | rw [if_neg (by omega)]))⟩

set_option maxRecDepth 100000 in
set_option maxHeartbeats 4000000 in
theorem c_X5_turns (l : Launch) (D : va_G) (yc : Nat → ClassId) (t1 t2 : Nat) (a : Int → Nat) (A : Nat → Prop) (g : Mm) (w y : Int) (hw : w = 0 ∨ (1 ≤ w ∧ w ≤ 6) ∨ (101 ≤ w ∧ w ≤ 299)) : Cv l yX5_turns wsX5_turns { frames := 1, cells := 0, slots := 0, locals := 21 } D yc t1 t2 A (mw a yc) [.ref (a (0)), .int (iI (w)), .int (iI (y))] g (fun g' => g' = (ru g 6 (tuF (g 6) w y))) := by
  refine start_v (cc := cX5_turns) (nL := 3) (ret := none) (own := RX5) (by decide +kernel) rfl rfl (Nat.le_of_ble_eq_true rfl) ?_
  intro p e s m9 below meth c9 C
  have wf25 : Cond.fieldLink RX5 25 (TX5 5).1 (TX5 5).2.1 (TX5 5).2.2.1 ∈ wsX5_turns := by decide +kernel
  have hinX5 : ∀ w ∈ u_ws RX5 TX5 17, w ∈ wsX5_turns := by decide +kernel
  refine v_lv (lv' := [(0, .ref (a (0))), (1, .int (iI (w))), (2, .int (iI (y)))]) rfl ?_
  refine v_iload_n C 1 dX5_turns_0 rfl ?_
  refine v_if_ne (tgt := 17) C dX5_turns_1 (by decide) (by omega) (fun c1 => ?_) (fun c1 => ?_)
  · skip
    refine v_iload_n C 1 dX5_turns_17 rfl ?_
    refine v_bipush C dX5_turns_18 (by decide) ?_
    refine v_icmp_ge (tgt := 50) C dX5_turns_20 (by decide) (by omega) (by omega) (fun c20 => ?_) (fun c20 => ?_)
    · skip
      refine v_aload_n C 0 dX5_turns_50 rfl ?_
      refine v_getf C (by omega) (by omega) ct_mod rfl 5 (by decide) wf25 hinX5 rfl dX5_turns_51 ?_
      refine v_iconst C dX5_turns_54 ?_
      refine v_dup2 C dX5_turns_55 rfl rfl ?_
      refine v_iaload C (by omega) (by omega) ct_mnow (by omega) (by omega) (by decide) dX5_turns_56 ?_
      refine v_cut1 80 (fun (v80 : Int) => v80 = if w < 200 then y * (100 - w) else y * (w - 200)) (fun (v80 : Int) => [(0, .ref (a (0))), (1, .int (iI (w))), (2, .int (iI (y)))]) (fun (v80 : Int) => [.int (iI (v80)), .int (iI (g (6) (5))), .int (iI (5)), .ref (a (6))]) (fun (v80 : Int) => g) ?_ ?_
      · intro v80 hj80
        try dsimp only
        refine v_iadd C dX5_turns_80 ?_
        refine v_iastore C (ctm_L a yc) (by omega) (by omega) ct_mnow (ct_mnow).symm (by omega) (by omega) (by decide) dX5_turns_81 ?_
        exact v_ret_v C rfl dX5_turns_82 (by unfold tuF; rw [mu_ru]; first | rw [hj80, if_neg (show ¬ w = 0 by omega), if_neg (show ¬ w < 100 by omega)] | (repeat (first | rfl | rw [if_pos (by omega)] | rw [if_neg (by omega)])))
      · intro jn80
        try dsimp only at jn80
        refine v_iload_n C 1 dX5_turns_57 rfl ?_
        refine v_sipush C dX5_turns_58 (by decide) ?_
        refine v_icmp_ge (tgt := 73) C dX5_turns_61 (by decide) (by omega) (by omega) (fun c61 => ?_) (fun c61 => ?_)
        · skip
          refine v_iload_n C 2 dX5_turns_73 rfl ?_
          refine v_iload_n C 1 dX5_turns_74 rfl ?_
          refine v_sipush C dX5_turns_75 (by decide) ?_
          refine v_isub C dX5_turns_78 ?_
          refine v_imul C dX5_turns_79 ?_
          exact jn80 (y * (w - 200)) (by repeat (first | rfl | rw [if_pos (by omega)] | rw [if_neg (by omega)]))
        · skip
          refine v_iload_n C 2 dX5_turns_64 rfl ?_
          refine v_bipush C dX5_turns_65 (by decide) ?_
          refine v_iload_n C 1 dX5_turns_67 rfl ?_
          refine v_isub C dX5_turns_68 ?_
          refine v_imul C dX5_turns_69 ?_
          refine v_goto (tgt := 80) C dX5_turns_70 (by decide) ?_
          exact jn80 (y * (100 - w)) (by repeat (first | rfl | rw [if_pos (by omega)] | rw [if_neg (by omega)]))
    · skip
      refine v_aload_n C 0 dX5_turns_23 rfl ?_
      refine v_getf C (by omega) (by omega) ct_mod rfl 5 (by decide) wf25 hinX5 rfl dX5_turns_24 ?_
      refine v_bipush C dX5_turns_27 (by decide) ?_
      refine v_iconst C dX5_turns_29 ?_
      refine v_iload_n C 1 dX5_turns_30 rfl ?_
      refine v_iconst C dX5_turns_31 ?_
      refine v_isub C dX5_turns_32 ?_
      refine v_imul C dX5_turns_33 ?_
      refine v_iadd C dX5_turns_34 ?_
      refine v_iconst C dX5_turns_35 ?_
      refine v_iadd C dX5_turns_36 ?_
      refine v_iconst C dX5_turns_37 ?_
      refine v_aload_n C 0 dX5_turns_38 rfl ?_
      refine v_iload_n C 1 dX5_turns_39 rfl ?_
      refine v_iconst C dX5_turns_40 ?_
      refine v_isub C dX5_turns_41 ?_
      refine v_cV_i C (As := [.int (iI (w - 1))]) (rest := [.int (iI (1)), .int (iI ((20 + (3 * (w - 1))) + 2)), .ref (a (6))]) (c_X5_ownerOf l D yc t1 t2 a A g (w - 1) (by omega)) (cwV 1 C.hts gX5_turns_X5_ownerOf rfl rfl rfl (by decide +kernel) ⟨by decide, by decide⟩) (fun H hP => va_recv C.hK hP (ci := 5) (q0 := (0 : Int).toNat) rfl (wo_is (by omega) (by omega) ct_mod)) rfl rfl (Nat.le_of_ble_eq_true rfl) dX5_turns_42 ?_
      intro r9 g9 h9
      rw [h9.1, h9.2]
      clear h9 g9 r9
      try dsimp only
      refine v_isub C dX5_turns_45 ?_
      refine v_iastore C (ctm_L a yc) (by omega) (by omega) ct_mnow (ct_mnow).symm (by omega) (by omega) (by decide) dX5_turns_46 ?_
      refine v_goto (tgt := 82) C dX5_turns_47 (by decide) ?_
      exact v_ret_v C rfl dX5_turns_82 (by unfold tuF; rw [mu_ru]; first | rw [hj80, if_neg (show ¬ w = 0 by omega), if_neg (show ¬ w < 100 by omega)] | (repeat (first | rfl | rw [if_pos (by omega)] | rw [if_neg (by omega)])))
  · skip
    refine v_aload_n C 0 dX5_turns_4 rfl ?_
    refine v_getf C (by omega) (by omega) ct_mod rfl 5 (by decide) wf25 hinX5 rfl dX5_turns_5 ?_
    refine v_iconst C dX5_turns_8 ?_
    refine v_dup2 C dX5_turns_9 rfl rfl ?_
    refine v_iaload C (by omega) (by omega) ct_mnow (by omega) (by omega) (by decide) dX5_turns_10 ?_
    refine v_iload_n C 2 dX5_turns_11 rfl ?_
    refine v_iadd C dX5_turns_12 ?_
    refine v_iastore C (ctm_L a yc) (by omega) (by omega) ct_mnow (ct_mnow).symm (by omega) (by omega) (by decide) dX5_turns_13 ?_
    refine v_goto (tgt := 82) C dX5_turns_14 (by decide) ?_
    exact v_ret_v C rfl dX5_turns_82 (by unfold tuF; rw [mu_ru]; first | rw [hj80, if_neg (show ¬ w = 0 by omega), if_neg (show ¬ w < 100 by omega)] | (repeat (first | rfl | rw [if_pos (by omega)] | rw [if_neg (by omega)])))

set_option maxRecDepth 100000 in
set_option maxHeartbeats 4000000 in
theorem c_X5_does (l : Launch) (D : va_G) (yc : Nat → ClassId) (t1 t2 : Nat) (a : Int → Nat) (A : Nat → Prop) (g : Mm) (w : Int) (hw : w = 0 ∨ (1 ≤ w ∧ w ≤ 6) ∨ (101 ≤ w ∧ w ≤ 299)) (hd : 0 ≤ g 6 4 ∧ g 6 4 < 60) : Cv l yX5_does wsX5_does { frames := 2, cells := 0, slots := 0, locals := 43 } D yc t1 t2 A (mw a yc) [.ref (a (0)), .int (iI (w))] g (fun g' => g' = (ru g 6 (doF (g 6) w))) := by
  refine start_v (cc := cX5_does) (nL := 2) (ret := none) (own := RX5) (by decide +kernel) rfl rfl (Nat.le_of_ble_eq_true rfl) ?_
  intro p e s m9 below meth c9 C
  have wf25 : Cond.fieldLink RX5 25 (TX5 5).1 (TX5 5).2.1 (TX5 5).2.2.1 ∈ wsX5_does := by decide +kernel
  have hinX5 : ∀ w ∈ u_ws RX5 TX5 17, w ∈ wsX5_does := by decide +kernel
  refine v_lv (lv' := [(0, .ref (a (0))), (1, .int (iI (w)))]) rfl ?_
  refine v_aload_n C 0 dX5_does_0 rfl ?_
  refine v_getf C (by omega) (by omega) ct_mod rfl 5 (by decide) wf25 hinX5 rfl dX5_does_1 ?_
  refine v_bipush C dX5_does_4 (by decide) ?_
  refine v_aload_n C 0 dX5_does_6 rfl ?_
  refine v_getf C (by omega) (by omega) ct_mod rfl 5 (by decide) wf25 hinX5 rfl dX5_does_7 ?_
  refine v_iconst C dX5_does_10 ?_
  refine v_iaload C (by omega) (by omega) ct_mnow (by omega) (by omega) (by decide) dX5_does_11 ?_
  refine v_iadd C dX5_does_12 ?_
  refine v_iload_n C 1 dX5_does_13 rfl ?_
  refine v_iastore C (ctm_L a yc) (by omega) (by omega) ct_mnow (ct_mnow).symm (by omega) (by omega) (by decide) dX5_does_14 ?_
  refine v_aload_n C 0 dX5_does_15 rfl ?_
  refine v_getf C (by omega) (by omega) ct_mod rfl 5 (by decide) wf25 hinX5 rfl dX5_does_16 ?_
  refine v_iconst C dX5_does_19 ?_
  refine v_dup2 C dX5_does_20 rfl rfl ?_
  refine v_iaload C (by omega) (by omega) ct_mnow (by omega) (by omega) (by decide) dX5_does_21 ?_
  refine v_st (st' := [.int (iI (g 6 4)), .int (iI (4)), .ref (a (6))]) (by rw [mu_nj (by omega)]) ?_
  refine v_iconst C dX5_does_22 ?_
  refine v_iadd C dX5_does_23 ?_
  refine v_iastore C (ctm_L a yc) (by omega) (by omega) ct_mnow (ct_mnow).symm (by omega) (by omega) (by decide) dX5_does_24 ?_
  refine v_aload_n C 0 dX5_does_25 rfl ?_
  refine v_iload_n C 1 dX5_does_26 rfl ?_
  refine v_iconst C dX5_does_27 ?_
  refine v_cV_v C (As := [.int (iI (w)), .int (iI (1))]) (rest := []) (c_X5_turns l D yc t1 t2 a A (mu (mu g (6) (38 + (g (6) (4))) (w)) (6) (4) ((g 6 4) + 1)) w 1 (by omega)) (cwV 2 C.hts gX5_does_X5_turns rfl rfl rfl (by decide +kernel) ⟨by decide, by decide⟩) (fun H hP => va_recv C.hK hP (ci := 5) (q0 := (0 : Int).toNat) rfl (wo_is (by omega) (by omega) ct_mod)) rfl rfl (Nat.le_of_ble_eq_true rfl) dX5_does_28 ?_
  intro g9 h9
  rw [h9]
  clear h9 g9
  try dsimp only
  exact v_ret_v C rfl dX5_does_31 (by rw [mu_ru, mu_ru, ru_ru, ru_at, ru_ru, ru_at]; rfl)

set_option maxRecDepth 100000 in
set_option maxHeartbeats 4000000 in
theorem c_X5_day (l : Launch) (D : va_G) (yc : Nat → ClassId) (t1 t2 : Nat) (a : Int → Nat) (A : Nat → Prop) (g : Mm)  (HI : FI (g 6)) (ht : 0 ≤ g 6 3 ∧ g 6 3 ≤ 999) : Ci l yX5_day wsX5_day { frames := 3, cells := 0, slots := 0, locals := 64 } D yc t1 t2 A (mw a yc) [.ref (a (0))] g (fun r9 g' => r9 = (iI (if g 6 0 = 0 ∨ g 6 3 = 999 then -4 else if g 6 4 = 60 then -2 else doF (g 6) 0 3)) ∧ g' = (if g 6 0 = 0 ∨ g 6 3 = 999 then g else if g 6 4 = 60 then g else ru g 6 (doF (g 6) 0))) := by
  refine start_i (cc := cX5_day) (nL := 1) (ret := (some .int)) (own := RX5) (by decide +kernel) rfl rfl (Nat.le_of_ble_eq_true rfl) ?_
  intro p e s m9 below meth c9 C
  have wf25 : Cond.fieldLink RX5 25 (TX5 5).1 (TX5 5).2.1 (TX5 5).2.2.1 ∈ wsX5_day := by decide +kernel
  have hinX5 : ∀ w ∈ u_ws RX5 TX5 17, w ∈ wsX5_day := by decide +kernel
  have hn := HI.n
  refine v_lv (lv' := [(0, .ref (a (0)))]) rfl ?_
  refine v_aload_n C 0 dX5_day_0 rfl ?_
  refine v_cV_i C (As := []) (rest := []) (c_X5_are l D yc t1 t2 a A g HI) (cwV 0 C.hts gX5_day_X5_are rfl rfl rfl (by decide +kernel) ⟨by decide, by decide⟩) (fun H hP => va_recv C.hK hP (ci := 5) (q0 := (0 : Int).toNat) rfl (wo_is (by omega) (by omega) ct_mod)) rfl rfl (Nat.le_of_ble_eq_true rfl) dX5_day_1 ?_
  intro r9 g9 h9
  rw [h9.1, h9.2]
  clear h9 g9 r9
  try dsimp only
  refine v_ifb_eq (tgt := 19) C dX5_day_4 (by decide) (fun c4 => ?_) (fun c4 => ?_)
  · skip
    refine v_bipush C dX5_day_19 (by decide) ?_
    exact v_ret_i C rfl dX5_day_21 ⟨(by repeat (first | rfl | rw [if_pos (by omega)] | rw [if_neg (by omega)])), (by repeat (first | rfl | rw [if_pos (by omega)] | rw [if_neg (by omega)]))⟩
  · skip
    refine v_aload_n C 0 dX5_day_7 rfl ?_
    refine v_getf C (by omega) (by omega) ct_mod rfl 5 (by decide) wf25 hinX5 rfl dX5_day_8 ?_
    refine v_iconst C dX5_day_11 ?_
    refine v_iaload C (by omega) (by omega) ct_mnow (by omega) (by omega) (by decide) dX5_day_12 ?_
    refine v_sipush C dX5_day_13 (by decide) ?_
    refine v_icmp_ne (tgt := 22) C dX5_day_16 (by decide) (by omega) (by omega) (fun c16 => ?_) (fun c16 => ?_)
    · skip
      refine v_aload_n C 0 dX5_day_22 rfl ?_
      refine v_getf C (by omega) (by omega) ct_mod rfl 5 (by decide) wf25 hinX5 rfl dX5_day_23 ?_
      refine v_iconst C dX5_day_26 ?_
      refine v_iaload C (by omega) (by omega) ct_mnow (by omega) (by omega) (by decide) dX5_day_27 ?_
      refine v_bipush C dX5_day_28 (by decide) ?_
      refine v_icmp_ne (tgt := 36) C dX5_day_30 (by decide) (by omega) (by omega) (fun c30 => ?_) (fun c30 => ?_)
      · skip
        refine v_aload_n C 0 dX5_day_36 rfl ?_
        refine v_iconst C dX5_day_37 ?_
        refine v_cV_v C (As := [.int (iI (0))]) (rest := []) (c_X5_does l D yc t1 t2 a A g 0 (by omega) (by omega)) (cwV 1 C.hts gX5_day_X5_does rfl rfl rfl (by decide +kernel) ⟨by decide, by decide⟩) (fun H hP => va_recv C.hK hP (ci := 5) (q0 := (0 : Int).toNat) rfl (wo_is (by omega) (by omega) ct_mod)) rfl rfl (Nat.le_of_ble_eq_true rfl) dX5_day_38 ?_
        intro g9 h9
        rw [h9]
        clear h9 g9
        try dsimp only
        refine v_aload_n C 0 dX5_day_41 rfl ?_
        refine v_getf C (by omega) (by omega) ct_mod rfl 5 (by decide) wf25 hinX5 rfl dX5_day_42 ?_
        refine v_iconst C dX5_day_45 ?_
        refine v_iaload C (by omega) (by omega) ct_mnow (by omega) (by omega) (by decide) dX5_day_46 ?_
        refine v_st (st' := [.int (iI (doF (g 6) 0 3))]) (by rw [ru_at]) ?_
        exact v_ret_i C rfl dX5_day_47 ⟨(by repeat (first | rfl | rw [if_pos (by omega)] | rw [if_neg (by omega)])), (by repeat (first | rfl | rw [if_pos (by omega)] | rw [if_neg (by omega)]))⟩
      · skip
        refine v_bipush C dX5_day_33 (by decide) ?_
        exact v_ret_i C rfl dX5_day_35 ⟨(by repeat (first | rfl | rw [if_pos (by omega)] | rw [if_neg (by omega)])), (by repeat (first | rfl | rw [if_pos (by omega)] | rw [if_neg (by omega)]))⟩
    · skip
      refine v_bipush C dX5_day_19 (by decide) ?_
      exact v_ret_i C rfl dX5_day_21 ⟨(by repeat (first | rfl | rw [if_pos (by omega)] | rw [if_neg (by omega)])), (by repeat (first | rfl | rw [if_pos (by omega)] | rw [if_neg (by omega)]))⟩

set_option maxRecDepth 100000 in
set_option maxHeartbeats 4000000 in
theorem c_X5_drive (l : Launch) (D : va_G) (yc : Nat → ClassId) (t1 t2 : Nat) (a : Int → Nat) (A : Nat → Prop) (g : Mm) (i : Int) (hi : R32 i) (HI : FI (g 6)) : Ci l yX5_drive wsX5_drive { frames := 3, cells := 0, slots := 0, locals := 64 } D yc t1 t2 A (mw a yc) [.ref (a (0)), .int (iI (i))] g (fun r9 g' => r9 = (iI (if i < 0 ∨ g 6 0 ≤ i then -1 else if g 6 4 = 60 then -2 else doF (g 6) (1 + i) (20 + 3 * i + 2))) ∧ g' = (if i < 0 ∨ g 6 0 ≤ i then g else if g 6 4 = 60 then g else ru g 6 (doF (g 6) (1 + i)))) := by
  refine start_i (cc := cX5_drive) (nL := 2) (ret := (some .int)) (own := RX5) (by decide +kernel) rfl rfl (Nat.le_of_ble_eq_true rfl) ?_
  intro p e s m9 below meth c9 C
  have wf25 : Cond.fieldLink RX5 25 (TX5 5).1 (TX5 5).2.1 (TX5 5).2.2.1 ∈ wsX5_drive := by decide +kernel
  have hinX5 : ∀ w ∈ u_ws RX5 TX5 17, w ∈ wsX5_drive := by decide +kernel
  have hn := HI.n
  refine v_lv (lv' := [(0, .ref (a (0))), (1, .int (iI (i)))]) rfl ?_
  refine v_aload_n C 0 dX5_drive_0 rfl ?_
  refine v_iload_n C 1 dX5_drive_1 rfl ?_
  refine v_cV_i C (As := [.int (iI (i))]) (rest := []) (c_X5_isBeast l D yc t1 t2 a A g i (by omega) HI) (cwV 1 C.hts gX5_drive_X5_isBeast rfl rfl rfl (by decide +kernel) ⟨by decide, by decide⟩) (fun H hP => va_recv C.hK hP (ci := 5) (q0 := (0 : Int).toNat) rfl (wo_is (by omega) (by omega) ct_mod)) rfl rfl (Nat.le_of_ble_eq_true rfl) dX5_drive_2 ?_
  intro r9 g9 h9
  rw [h9.1, h9.2]
  clear h9 g9 r9
  try dsimp only
  refine v_ifb_ne (tgt := 10) C dX5_drive_5 (by decide) (fun c5 => ?_) (fun c5 => ?_)
  · skip
    refine v_aload_n C 0 dX5_drive_10 rfl ?_
    refine v_getf C (by omega) (by omega) ct_mod rfl 5 (by decide) wf25 hinX5 rfl dX5_drive_11 ?_
    refine v_iconst C dX5_drive_14 ?_
    refine v_iaload C (by omega) (by omega) ct_mnow (by omega) (by omega) (by decide) dX5_drive_15 ?_
    refine v_bipush C dX5_drive_16 (by decide) ?_
    refine v_icmp_ne (tgt := 24) C dX5_drive_18 (by decide) (by omega) (by omega) (fun c18 => ?_) (fun c18 => ?_)
    · skip
      refine v_aload_n C 0 dX5_drive_24 rfl ?_
      refine v_iconst C dX5_drive_25 ?_
      refine v_iload_n C 1 dX5_drive_26 rfl ?_
      refine v_iadd C dX5_drive_27 ?_
      refine v_cV_v C (As := [.int (iI (1 + i))]) (rest := []) (c_X5_does l D yc t1 t2 a A g (1 + i) (by omega) (by omega)) (cwV 1 C.hts gX5_drive_X5_does rfl rfl rfl (by decide +kernel) ⟨by decide, by decide⟩) (fun H hP => va_recv C.hK hP (ci := 5) (q0 := (0 : Int).toNat) rfl (wo_is (by omega) (by omega) ct_mod)) rfl rfl (Nat.le_of_ble_eq_true rfl) dX5_drive_28 ?_
      intro g9 h9
      rw [h9]
      clear h9 g9
      try dsimp only
      refine v_aload_n C 0 dX5_drive_31 rfl ?_
      refine v_iload_n C 1 dX5_drive_32 rfl ?_
      refine v_cV_i C (As := [.int (iI (i))]) (rest := []) (c_X5_ownerOf l D yc t1 t2 a A ((ru g 6 (doF (g 6) (1 + i)))) i (by omega)) (cwV 1 C.hts gX5_drive_X5_ownerOf rfl rfl rfl (by decide +kernel) ⟨by decide, by decide⟩) (fun H hP => va_recv C.hK hP (ci := 5) (q0 := (0 : Int).toNat) rfl (wo_is (by omega) (by omega) ct_mod)) rfl rfl (Nat.le_of_ble_eq_true rfl) dX5_drive_33 ?_
      intro r9 g9 h9
      rw [h9.1, h9.2]
      clear h9 g9 r9
      try dsimp only
      refine v_st (st' := [.int (iI (doF (g 6) (1 + i) (20 + 3 * i + 2)))]) (by rw [ru_at]) ?_
      exact v_ret_i C rfl dX5_drive_36 ⟨(by repeat (first | rfl | rw [if_pos (by omega)] | rw [if_neg (by omega)])), (by repeat (first | rfl | rw [if_pos (by omega)] | rw [if_neg (by omega)]))⟩
    · skip
      refine v_bipush C dX5_drive_21 (by decide) ?_
      exact v_ret_i C rfl dX5_drive_23 ⟨(by repeat (first | rfl | rw [if_pos (by omega)] | rw [if_neg (by omega)])), (by repeat (first | rfl | rw [if_pos (by omega)] | rw [if_neg (by omega)]))⟩
  · skip
    refine v_iconst C dX5_drive_8 ?_
    exact v_ret_i C rfl dX5_drive_9 ⟨(by repeat (first | rfl | rw [if_pos (by omega)] | rw [if_neg (by omega)])), (by repeat (first | rfl | rw [if_pos (by omega)] | rw [if_neg (by omega)]))⟩

set_option maxRecDepth 100000 in
set_option maxHeartbeats 4000000 in
theorem c_X5_pay (l : Launch) (D : va_G) (yc : Nat → ClassId) (t1 t2 : Nat) (a : Int → Nat) (A : Nat → Prop) (g : Mm) (q x : Int) (hq : R32 q) (hx : R32 x) (HI : FI (g 6)) : Ci l yX5_pay wsX5_pay { frames := 3, cells := 0, slots := 0, locals := 64 } D yc t1 t2 A (mw a yc) [.ref (a (0)), .int (iI (q)), .int (iI (x))] g (fun r9 g' => r9 = (iI (if (q < 0 ∨ 1 < q) ∨ (x < 1 ∨ 99 < x) then -1 else if g 6 0 = 0 then -4 else if g 6 4 = 60 then -2 else doF (g 6) (100 + 100 * q + x) 5 + 10000)) ∧ g' = (if (q < 0 ∨ 1 < q) ∨ (x < 1 ∨ 99 < x) then g else if g 6 0 = 0 then g else if g 6 4 = 60 then g else ru g 6 (doF (g 6) (100 + 100 * q + x)))) := by
  refine start_i (cc := cX5_pay) (nL := 3) (ret := (some .int)) (own := RX5) (by decide +kernel) rfl rfl (Nat.le_of_ble_eq_true rfl) ?_
  intro p e s m9 below meth c9 C
  have wf25 : Cond.fieldLink RX5 25 (TX5 5).1 (TX5 5).2.1 (TX5 5).2.2.1 ∈ wsX5_pay := by decide +kernel
  have hinX5 : ∀ w ∈ u_ws RX5 TX5 17, w ∈ wsX5_pay := by decide +kernel
  have hn := HI.n
  refine v_lv (lv' := [(0, .ref (a (0))), (1, .int (iI (q))), (2, .int (iI (x)))]) rfl ?_
  refine v_iload_n C 1 dX5_pay_0 rfl ?_
  refine v_iconst C dX5_pay_1 ?_
  refine v_iconst C dX5_pay_2 ?_
  refine v_cS_i C (As := [.int (iI (q)), .int (iI (0)), .int (iI (1))]) (rest := []) (c_X5_in l D yc t1 t2 A (mw a yc) g q 0 1 (by omega) (by omega) (by omega)) (va_cwS 3 C.hts gX5_pay_X5_in rfl rfl rfl (by decide +kernel) ⟨by decide, by decide⟩) rfl rfl (Nat.le_of_ble_eq_true rfl) dX5_pay_3 ?_
  intro r9 g9 h9
  rw [h9.1, h9.2]
  clear h9 g9 r9
  try dsimp only
  refine v_ifb_eq (tgt := 19) C dX5_pay_6 (by decide) (fun c6 => ?_) (fun c6 => ?_)
  · skip
    refine v_iconst C dX5_pay_19 ?_
    exact v_ret_i C rfl dX5_pay_20 ⟨(by repeat (first | rfl | rw [if_pos (by omega)] | rw [if_neg (by omega)])), (by repeat (first | rfl | rw [if_pos (by omega)] | rw [if_neg (by omega)]))⟩
  · skip
    refine v_iload_n C 2 dX5_pay_9 rfl ?_
    refine v_iconst C dX5_pay_10 ?_
    refine v_bipush C dX5_pay_11 (by decide) ?_
    refine v_cS_i C (As := [.int (iI (x)), .int (iI (1)), .int (iI (99))]) (rest := []) (c_X5_in l D yc t1 t2 A (mw a yc) g x 1 99 (by omega) (by omega) (by omega)) (va_cwS 3 C.hts gX5_pay_X5_in rfl rfl rfl (by decide +kernel) ⟨by decide, by decide⟩) rfl rfl (Nat.le_of_ble_eq_true rfl) dX5_pay_13 ?_
    intro r9 g9 h9
    rw [h9.1, h9.2]
    clear h9 g9 r9
    try dsimp only
    refine v_ifb_ne (tgt := 21) C dX5_pay_16 (by decide) (fun c16 => ?_) (fun c16 => ?_)
    · skip
      refine v_aload_n C 0 dX5_pay_21 rfl ?_
      refine v_cV_i C (As := []) (rest := []) (c_X5_are l D yc t1 t2 a A g HI) (cwV 0 C.hts gX5_pay_X5_are rfl rfl rfl (by decide +kernel) ⟨by decide, by decide⟩) (fun H hP => va_recv C.hK hP (ci := 5) (q0 := (0 : Int).toNat) rfl (wo_is (by omega) (by omega) ct_mod)) rfl rfl (Nat.le_of_ble_eq_true rfl) dX5_pay_22 ?_
      intro r9 g9 h9
      rw [h9.1, h9.2]
      clear h9 g9 r9
      try dsimp only
      refine v_ifb_ne (tgt := 31) C dX5_pay_25 (by decide) (fun c25 => ?_) (fun c25 => ?_)
      · skip
        refine v_aload_n C 0 dX5_pay_31 rfl ?_
        refine v_getf C (by omega) (by omega) ct_mod rfl 5 (by decide) wf25 hinX5 rfl dX5_pay_32 ?_
        refine v_iconst C dX5_pay_35 ?_
        refine v_iaload C (by omega) (by omega) ct_mnow (by omega) (by omega) (by decide) dX5_pay_36 ?_
        refine v_bipush C dX5_pay_37 (by decide) ?_
        refine v_icmp_ne (tgt := 45) C dX5_pay_39 (by decide) (by omega) (by omega) (fun c39 => ?_) (fun c39 => ?_)
        · skip
          refine v_aload_n C 0 dX5_pay_45 rfl ?_
          refine v_bipush C dX5_pay_46 (by decide) ?_
          refine v_bipush C dX5_pay_48 (by decide) ?_
          refine v_iload_n C 1 dX5_pay_50 rfl ?_
          refine v_imul C dX5_pay_51 ?_
          refine v_iadd C dX5_pay_52 ?_
          refine v_iload_n C 2 dX5_pay_53 rfl ?_
          refine v_iadd C dX5_pay_54 ?_
          refine v_cV_v C (As := [.int (iI ((100 + (100 * q)) + x))]) (rest := []) (c_X5_does l D yc t1 t2 a A g ((100 + (100 * q)) + x) (by omega) (by omega)) (cwV 1 C.hts gX5_pay_X5_does rfl rfl rfl (by decide +kernel) ⟨by decide, by decide⟩) (fun H hP => va_recv C.hK hP (ci := 5) (q0 := (0 : Int).toNat) rfl (wo_is (by omega) (by omega) ct_mod)) rfl rfl (Nat.le_of_ble_eq_true rfl) dX5_pay_55 ?_
          intro g9 h9
          rw [h9]
          clear h9 g9
          try dsimp only
          refine v_aload_n C 0 dX5_pay_58 rfl ?_
          refine v_getf C (by omega) (by omega) ct_mod rfl 5 (by decide) wf25 hinX5 rfl dX5_pay_59 ?_
          refine v_iconst C dX5_pay_62 ?_
          refine v_iaload C (by omega) (by omega) ct_mnow (by omega) (by omega) (by decide) dX5_pay_63 ?_
          refine v_st (st' := [.int (iI (doF (g 6) (100 + 100 * q + x) 5))]) (by rw [ru_at]) ?_
          refine v_sipush C dX5_pay_64 (by decide) ?_
          refine v_iadd C dX5_pay_67 ?_
          exact v_ret_i C rfl dX5_pay_68 ⟨(by repeat (first | rfl | rw [if_pos (by omega)] | rw [if_neg (by omega)])), (by repeat (first | rfl | rw [if_pos (by omega)] | rw [if_neg (by omega)]))⟩
        · skip
          refine v_bipush C dX5_pay_42 (by decide) ?_
          exact v_ret_i C rfl dX5_pay_44 ⟨(by repeat (first | rfl | rw [if_pos (by omega)] | rw [if_neg (by omega)])), (by repeat (first | rfl | rw [if_pos (by omega)] | rw [if_neg (by omega)]))⟩
      · skip
        refine v_bipush C dX5_pay_28 (by decide) ?_
        exact v_ret_i C rfl dX5_pay_30 ⟨(by repeat (first | rfl | rw [if_pos (by omega)] | rw [if_neg (by omega)])), (by repeat (first | rfl | rw [if_pos (by omega)] | rw [if_neg (by omega)]))⟩
    · skip
      refine v_iconst C dX5_pay_19 ?_
      exact v_ret_i C rfl dX5_pay_20 ⟨(by repeat (first | rfl | rw [if_pos (by omega)] | rw [if_neg (by omega)])), (by repeat (first | rfl | rw [if_pos (by omega)] | rw [if_neg (by omega)]))⟩

set_option maxRecDepth 100000 in
set_option maxHeartbeats 4000000 in
theorem c_X5_undo (l : Launch) (D : va_G) (yc : Nat → ClassId) (t1 t2 : Nat) (a : Int → Nat) (A : Nat → Prop) (g : Mm) (n : Int) (hn : R32 n) (HI : FI (g 6)) (HU : ∀ (c : Nat) (k : Int), 0 ≤ k → k < g 6 4 - c → uF (g 6) (g 6 4) c (38 + k) = g 6 (38 + k)) (HW : ∀ k, 0 ≤ k → k < g 6 4 → (g 6 (38 + k) = 0 ∨ (1 ≤ g 6 (38 + k) ∧ g 6 (38 + k) ≤ 6) ∨ (101 ≤ g 6 (38 + k) ∧ g 6 (38 + k) ≤ 299))) : Ci l yX5_undo wsX5_undo { frames := 2, cells := 0, slots := 0, locals := 43 } D yc t1 t2 A (mw a yc) [.ref (a (0)), .int (iI (n))] g (fun r9 g' => r9 = (iI (if n < 0 ∨ g 6 4 < n then -1 else g 6 4 - n)) ∧ g' = (if n < 0 ∨ g 6 4 < n then g else ru g 6 (fu (uF (g 6) (g 6 4) (g 6 4 - n).toNat) 4 n))) := by
  refine start_i (cc := cX5_undo) (nL := 4) (ret := (some .int)) (own := RX5) (by decide +kernel) rfl rfl (Nat.le_of_ble_eq_true rfl) ?_
  intro p e s m9 below meth c9 C
  have wf25 : Cond.fieldLink RX5 25 (TX5 5).1 (TX5 5).2.1 (TX5 5).2.2.1 ∈ wsX5_undo := by decide +kernel
  have hinX5 : ∀ w ∈ u_ws RX5 TX5 17, w ∈ wsX5_undo := by decide +kernel
  have hn9 := HI.n
  refine v_lv (lv' := [(0, .ref (a (0))), (1, .int (iI (n)))]) rfl ?_
  refine v_iload_n C 1 dX5_undo_0 rfl ?_
  refine v_iconst C dX5_undo_1 ?_
  refine v_aload_n C 0 dX5_undo_2 rfl ?_
  refine v_getf C (by omega) (by omega) ct_mod rfl 5 (by decide) wf25 hinX5 rfl dX5_undo_3 ?_
  refine v_iconst C dX5_undo_6 ?_
  refine v_iaload C (by omega) (by omega) ct_mnow (by omega) (by omega) (by decide) dX5_undo_7 ?_
  refine v_cS_i C (As := [.int (iI (n)), .int (iI (0)), .int (iI (g (6) (4)))]) (rest := []) (c_X5_in l D yc t1 t2 A (mw a yc) g n 0 (g (6) (4)) (by omega) (by omega) (by omega)) (va_cwS 3 C.hts gX5_undo_X5_in rfl rfl rfl (by decide +kernel) ⟨by decide, by decide⟩) rfl rfl (Nat.le_of_ble_eq_true rfl) dX5_undo_8 ?_
  intro r9 g9 h9
  rw [h9.1, h9.2]
  clear h9 g9 r9
  try dsimp only
  refine v_ifb_ne (tgt := 16) C dX5_undo_11 (by decide) (fun c11 => ?_) (fun c11 => ?_)
  · skip
    refine v_aload_n C 0 dX5_undo_16 rfl ?_
    refine v_getf C (by omega) (by omega) ct_mod rfl 5 (by decide) wf25 hinX5 rfl dX5_undo_17 ?_
    refine v_iconst C dX5_undo_20 ?_
    refine v_iaload C (by omega) (by omega) ct_mnow (by omega) (by omega) (by decide) dX5_undo_21 ?_
    refine v_iload_n C 1 dX5_undo_22 rfl ?_
    refine v_isub C dX5_undo_23 ?_
    refine v_istore_n (lv' := [(2, .int (iI ((g (6) (4)) - n))), (0, .ref (a (0))), (1, .int (iI (n)))]) C dX5_undo_24 (by decide) rfl ?_
    refine v_aload_n C 1 dX5_undo_25 rfl ?_
    refine v_getf C (by omega) (by omega) ct_mod rfl 5 (by decide) wf25 hinX5 rfl dX5_undo_26 ?_
    refine v_iconst C dX5_undo_29 ?_
    refine v_iaload C (by omega) (by omega) ct_mnow (by omega) (by omega) (by decide) dX5_undo_30 ?_
    refine v_iconst C dX5_undo_31 ?_
    refine v_isub C dX5_undo_32 ?_
    refine v_istore_n (lv' := [(3, .int (iI ((g (6) (4)) - 1))), (2, .int (iI ((g (6) (4)) - n))), (0, .ref (a (0))), (1, .int (iI (n)))]) C dX5_undo_33 (by decide) rfl ?_
    refine v_g (g' := (ru g 6 (uF (g 6) (g 6 4) (g 6 4 - 1 - (g 6 4 - 1)).toNat))) (by rw [show (g 6 4 - 1 - (g 6 4 - 1)).toNat = 0 by omega]; exact (ru_self g 6).symm) ?_
    refine v_lv (congrArg (fun x9 => ([(3, .int (iI x9)), (2, .int (iI ((g (6) (4)) - n))), (0, .ref (a (0))), (1, .int (iI (n)))] : List (Nat × Value))) (show ((g (6) (4)) - 1) = (((g 6 4 - 1))) by first | rfl | omega | (simp; done))) ?_
    refine v_loop1 (fun (x : Int) => (x + 1).toNat) (fun (x : Int) => n - 1 ≤ x ∧ x ≤ g 6 4 - 1) (fun (x : Int) => [(3, .int (iI (x))), (2, .int (iI ((g (6) (4)) - n))), (0, .ref (a (0))), (1, .int (iI (n)))]) (fun (x : Int) => (ru g 6 (uF (g 6) (g 6 4) (g 6 4 - 1 - x).toNat))) ?_ (g 6 4 - 1) (by omega)
    intro x hI34 ih34
    try dsimp only at ih34 ⊢
    refine v_iload_n C 0 dX5_undo_34 rfl ?_
    refine v_iload_n C 3 dX5_undo_35 rfl ?_
    refine v_icmp_lt (tgt := 69) C dX5_undo_36 (by decide) (by omega) (by omega) (fun c36 => ?_) (fun c36 => ?_)
    · skip
      refine v_aload_n C 2 dX5_undo_69 rfl ?_
      refine v_getf C (by omega) (by omega) ct_mod rfl 5 (by decide) wf25 hinX5 rfl dX5_undo_70 ?_
      refine v_iconst C dX5_undo_73 ?_
      refine v_iload_n C 3 dX5_undo_74 rfl ?_
      refine v_iastore C (ctm_L a yc) (by omega) (by omega) ct_mnow (ct_mnow).symm (by omega) (by omega) (by decide) dX5_undo_75 ?_
      refine v_iload_n C 1 dX5_undo_76 rfl ?_
      exact v_ret_i C rfl dX5_undo_77 ⟨(by repeat (first | rfl | rw [if_pos (by omega)] | rw [if_neg (by omega)])), (by rw [mu_ru, ru_at, ru_ru, show (g 6 4 - 1 - x).toNat = (g 6 4 - n).toNat by omega]; repeat (first | rfl | rw [if_pos (by omega)] | rw [if_neg (by omega)]))⟩
    · skip
      refine v_aload_n C 2 dX5_undo_39 rfl ?_
      refine v_aload_n C 2 dX5_undo_40 rfl ?_
      refine v_getf C (by omega) (by omega) ct_mod rfl 5 (by decide) wf25 hinX5 rfl dX5_undo_41 ?_
      refine v_bipush C dX5_undo_44 (by decide) ?_
      refine v_iload_n C 0 dX5_undo_46 rfl ?_
      refine v_iadd C dX5_undo_47 ?_
      refine v_iaload C (by omega) (by omega) ct_mnow (by omega) (by omega) (by decide) dX5_undo_48 ?_
      refine v_st (st' := [.int (iI (g 6 (38 + x))), .ref (a (0))]) (by rw [ru_at, HU _ x (by omega) (by omega)]) ?_
      have hw := HW x (by omega) (by omega)
      refine v_iconst C dX5_undo_49 ?_
      refine v_cV_v C (As := [.int (iI (g 6 (38 + x))), .int (iI (-1))]) (rest := []) (c_X5_turns l D yc t1 t2 a A (ru g 6 (uF (g 6) (g 6 4) (g 6 4 - 1 - x).toNat)) (g 6 (38 + x)) (-1) (by omega)) (cwV 2 C.hts gX5_undo_X5_turns rfl rfl rfl (by decide +kernel) ⟨by decide, by decide⟩) (fun H hP => va_recv C.hK hP (ci := 5) (q0 := (0 : Int).toNat) rfl (wo_is (by omega) (by omega) ct_mod)) rfl rfl (Nat.le_of_ble_eq_true rfl) dX5_undo_50 ?_
      intro g9 h9
      rw [h9]
      clear h9 g9
      try dsimp only
      refine v_aload_n C 2 dX5_undo_53 rfl ?_
      refine v_getf C (by omega) (by omega) ct_mod rfl 5 (by decide) wf25 hinX5 rfl dX5_undo_54 ?_
      refine v_bipush C dX5_undo_57 (by decide) ?_
      refine v_iload_n C 0 dX5_undo_59 rfl ?_
      refine v_iadd C dX5_undo_60 ?_
      refine v_iconst C dX5_undo_61 ?_
      refine v_iastore C (ctm_L a yc) (by omega) (by omega) ct_mnow (ct_mnow).symm (by omega) (by omega) (by decide) dX5_undo_62 ?_
      refine v_iinc (z' := x - 1) (lv' := [(3, .int (iI (x - 1))), (2, .int (iI ((g (6) (4)) - n))), (0, .ref (a (0))), (1, .int (iI (n)))]) C 0 dX5_undo_63 rfl (by omega) (by decide) rfl ?_
      refine v_goto (tgt := 34) C dX5_undo_66 (by decide) ?_
      exact v_g (by rw [mu_ru, ru_at, ru_ru, ru_at, ru_ru, show (g 6 4 - 1 - (x - 1)).toNat = (g 6 4 - 1 - x).toNat + 1 by omega]; show _ = ru g 6 (fu (tuF _ _ _) _ _); rw [show g 6 4 - 1 - ((g 6 4 - 1 - x).toNat : Int) = x by omega, HU _ x (by omega) (by omega)]) (ih34 (x - 1) (by omega) (by omega))
  · skip
    refine v_iconst C dX5_undo_14 ?_
    exact v_ret_i C rfl dX5_undo_15 ⟨(by repeat (first | rfl | rw [if_pos (by omega)] | rw [if_neg (by omega)])), (by repeat (first | rfl | rw [if_pos (by omega)] | rw [if_neg (by omega)]))⟩
