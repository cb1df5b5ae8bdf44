set_option maxRecDepth 100000 in
set_option maxHeartbeats 4000000 in
theorem c_X0_become (l : Launch) (D : va_G) (yc : Nat → ClassId) (t1 t2 : Nat) (a : Int → Nat) (A : Nat → Prop) (g : Mm) (f i k w o : Int) (hf : 0 ≤ f ∧ f < 5) (hi : 0 ≤ i ∧ i < 6) (hk5 : 0 ≤ k ∧ k ≤ 5) (hw : 1 ≤ w ∧ w ≤ 9) : Cv l yX0_become wsX0_become { frames := 1, cells := 0, slots := 0, locals := 23 } D yc t1 t2 A (cw a yc) [.ref (a (56 + 6 * f + i)), .int (iI (k)), .int (iI (w)), .int (iI (o))] g (fun g' => g' = (setB g (56 + 6 * f + i) k w o)) := by
  refine start_v (cc := cX0_become) (nL := 5) (ret := none) (own := RX0) (by decide +kernel) rfl rfl (Nat.le_of_ble_eq_true rfl) ?_
  intro p e s m9 below meth c9 C
  have wf9 : Cond.fieldLink RX0 9 (TX0 0).1 (TX0 0).2.1 (TX0 0).2.2.1 ∈ wsX0_become := by decide +kernel
  have hinX0 : ∀ w ∈ u_ws RX0 TX0 5, w ∈ wsX0_become := by decide +kernel
  have wf19 : Cond.fieldLink RX0 19 (TX0 1).1 (TX0 1).2.1 (TX0 1).2.2.1 ∈ wsX0_become := by decide +kernel
  have wf22 : Cond.fieldLink RX0 22 (TX0 2).1 (TX0 2).2.1 (TX0 2).2.2.1 ∈ wsX0_become := by decide +kernel
  have wf29 : Cond.fieldLink RX0 29 (TX0 3).1 (TX0 3).2.1 (TX0 3).2.2.1 ∈ wsX0_become := by decide +kernel
  have wf32 : Cond.fieldLink RX0 32 (TX0 4).1 (TX0 4).2.1 (TX0 4).2.2.1 ∈ wsX0_become := by decide +kernel
  have hkk : k = 0 ∨ k = 1 ∨ k = 2 ∨ k = 3 ∨ k = 4 ∨ k = 5 := by omega
  refine v_lv (lv' := [(0, .ref (a (56 + 6 * f + i))), (1, .int (iI (k))), (2, .int (iI (w))), (3, .int (iI (o)))]) rfl ?_
  refine v_aload_n C 0 dX0_become_0 rfl ?_
  refine v_iload_n C 1 dX0_become_1 rfl ?_
  refine v_puti C (cta_L a yc) (by omega) (by omega) (ct_beast (by omega) (by omega) (by omega) (by omega)) rfl 0 (by decide) wf9 hinX0 tyX0 tyX0_ok nmX0 rfl (by decide +kernel) (by simp) (cs_beast_0 (by omega) (by omega) (by omega) (by omega)) dX0_become_2 ?_
  refine v_g (g' := (mu g (56 + 6 * f + i) (0) (k))) rfl ?_
  refine v_aload_n C 0 dX0_become_5 rfl ?_
  refine v_iload_n C 2 dX0_become_6 rfl ?_
  refine v_puti C (cta_L a yc) (by omega) (by omega) (ct_beast (by omega) (by omega) (by omega) (by omega)) rfl 1 (by decide) wf19 hinX0 tyX0 tyX0_ok nmX0 rfl (by decide +kernel) (by simp) (cs_beast_1 (by omega) (by omega) (by omega) (by omega)) dX0_become_7 ?_
  refine v_g (g' := (mu (mu g (56 + 6 * f + i) (0) (k)) (56 + 6 * f + i) (1) (w))) rfl ?_
  refine v_aload_n C 0 dX0_become_10 rfl ?_
  refine v_iload_n C 3 dX0_become_11 rfl ?_
  refine v_puti C (cta_L a yc) (by omega) (by omega) (ct_beast (by omega) (by omega) (by omega) (by omega)) rfl 2 (by decide) wf22 hinX0 tyX0 tyX0_ok nmX0 rfl (by decide +kernel) (by simp) (cs_beast_2 (by omega) (by omega) (by omega) (by omega)) dX0_become_12 ?_
  refine v_g (g' := (mu (mu (mu g (56 + 6 * f + i) (0) (k)) (56 + 6 * f + i) (1) (w)) (56 + 6 * f + i) (2) (o))) rfl ?_
  refine v_aload_n C 0 dX0_become_15 rfl ?_
  refine v_cut1 41 (fun (v41 : Int) => v41 = if k = 1 then 1 else if k = 3 ∨ k = 5 then 4 else 2) (fun (v41 : Int) => [(0, .ref (a (56 + 6 * f + i))), (1, .int (iI (k))), (2, .int (iI (w))), (3, .int (iI (o)))]) (fun (v41 : Int) => [.int (iI (v41)), .ref (a (56 + 6 * f + i))]) (fun (v41 : Int) => (mu (mu (mu g (56 + 6 * f + i) (0) (k)) (56 + 6 * f + i) (1) (w)) (56 + 6 * f + i) (2) (o))) ?_ ?_
  · intro v41 hj41
    try dsimp only
    refine v_aload_n C 0 dX0_become_41 rfl ?_
    refine v_getf C (by omega) (by omega) (ct_beast (by omega) (by omega) (by omega) (by omega)) rfl 1 (by decide) wf19 hinX0 rfl dX0_become_42 ?_
    refine v_st (st' := [.int (iI (w)), .int (iI (v41)), .ref (a (56 + 6 * f + i))]) (by rw [mu_nj (show (1 : Int) ≠ 2 by omega), mu_at]) ?_
    refine v_imul C dX0_become_45 ?_
    refine v_puti C (cta_L a yc) (by omega) (by omega) (ct_beast (by omega) (by omega) (by omega) (by omega)) rfl 3 (by decide) wf29 hinX0 tyX0 tyX0_ok nmX0 rfl (by decide +kernel) (by simp) (cs_beast_3 (by omega) (by omega) (by omega) (by omega)) dX0_become_46 ?_
    refine v_g (g' := (mu (mu (mu (mu g (56 + 6 * f + i) (0) (k)) (56 + 6 * f + i) (1) (w)) (56 + 6 * f + i) (2) (o)) (56 + 6 * f + i) (3) (v41 * w))) rfl ?_
    refine v_aload_n C 0 dX0_become_49 rfl ?_
    refine v_cut1 63 (fun (v63 : Int) => v63 = if k = 1 then 1 else 2) (fun (v63 : Int) => [(0, .ref (a (56 + 6 * f + i))), (1, .int (iI (k))), (2, .int (iI (w))), (3, .int (iI (o)))]) (fun (v63 : Int) => [.int (iI (v63)), .ref (a (56 + 6 * f + i))]) (fun (v63 : Int) => (mu (mu (mu (mu g (56 + 6 * f + i) (0) (k)) (56 + 6 * f + i) (1) (w)) (56 + 6 * f + i) (2) (o)) (56 + 6 * f + i) (3) (v41 * w))) ?_ ?_
    · intro v63 hj63
      try dsimp only
      refine v_aload_n C 0 dX0_become_63 rfl ?_
      refine v_getf C (by omega) (by omega) (ct_beast (by omega) (by omega) (by omega) (by omega)) rfl 1 (by decide) wf19 hinX0 rfl dX0_become_64 ?_
      refine v_st (st' := [.int (iI (w)), .int (iI (v63)), .ref (a (56 + 6 * f + i))]) (by rw [mu_nj (show (1 : Int) ≠ 3 by omega), mu_nj (show (1 : Int) ≠ 2 by omega), mu_at]) ?_
      refine v_imul C dX0_become_67 ?_
      refine v_puti C (cta_L a yc) (by omega) (by omega) (ct_beast (by omega) (by omega) (by omega) (by omega)) rfl 4 (by decide) wf32 hinX0 tyX0 tyX0_ok nmX0 rfl (by decide +kernel) (by simp) (cs_beast_4 (by omega) (by omega) (by omega) (by omega)) dX0_become_68 ?_
      refine v_g (g' := (mu (mu (mu (mu (mu g (56 + 6 * f + i) (0) (k)) (56 + 6 * f + i) (1) (w)) (56 + 6 * f + i) (2) (o)) (56 + 6 * f + i) (3) (v41 * w)) (56 + 6 * f + i) (4) (v63 * w))) rfl ?_
      refine v_cut1 89 (fun (v89 : Int) => v89 = (if k = 1 then 1 else 2) * w + (if k = 2 ∨ k = 4 then 3 else 0)) (fun (v89 : Int) => [(0, .ref (a (56 + 6 * f + i))), (1, .int (iI (k))), (2, .int (iI (w))), (3, .int (iI (o)))]) (fun (v89 : Int) => []) (fun (v89 : Int) => (mu (mu (mu (mu (mu g (56 + 6 * f + i) (0) (k)) (56 + 6 * f + i) (1) (w)) (56 + 6 * f + i) (2) (o)) (56 + 6 * f + i) (3) (v41 * w)) (56 + 6 * f + i) (4) (v89))) ?_ ?_
      · intro v89 hj89
        try dsimp only
        refine v_cut1 114 (fun (v114 : Int) => v114 = if k = 4 then 2 else if k = 5 then -1 else 0) (fun (v114 : Int) => [(0, .ref (a (56 + 6 * f + i))), (1, .int (iI (k))), (2, .int (iI (w))), (3, .int (iI (o)))]) (fun (v114 : Int) => [.int (iI (v114))]) (fun (v114 : Int) => (mu (mu (mu (mu (mu g (56 + 6 * f + i) (0) (k)) (56 + 6 * f + i) (1) (w)) (56 + 6 * f + i) (2) (o)) (56 + 6 * f + i) (3) (v41 * w)) (56 + 6 * f + i) (4) (v89))) ?_ ?_
        · intro v114 hj114
          try dsimp only
          refine v_istore (lv' := [(4, .int (iI (v114))), (0, .ref (a (56 + 6 * f + i))), (1, .int (iI (k))), (2, .int (iI (w))), (3, .int (iI (o)))]) C dX0_become_114 (by decide) rfl ?_
          refine v_aload_n C 1 dX0_become_116 rfl ?_
          refine v_dup C dX0_become_117 rfl ?_
          refine v_getf C (by omega) (by omega) (ct_beast (by omega) (by omega) (by omega) (by omega)) rfl 3 (by decide) wf29 hinX0 rfl dX0_become_118 ?_
          refine v_st (st' := [.int (iI (v41 * w)), .ref (a (56 + 6 * f + i))]) (by rw [mu_nj (show (3 : Int) ≠ 4 by omega), mu_at]) ?_
          refine v_iload C 0 dX0_become_121 rfl ?_
          refine v_iadd C dX0_become_123 ?_
          refine v_puti C (cta_L a yc) (by omega) (by omega) (ct_beast (by omega) (by omega) (by omega) (by omega)) rfl 3 (by decide) wf29 hinX0 tyX0 tyX0_ok nmX0 rfl (by decide +kernel) (by simp) (cs_beast_3 (by omega) (by omega) (by omega) (by omega)) dX0_become_124 ?_
          refine v_g (g' := (mu (mu (mu (mu (mu (mu g (56 + 6 * f + i) (0) (k)) (56 + 6 * f + i) (1) (w)) (56 + 6 * f + i) (2) (o)) (56 + 6 * f + i) (3) (v41 * w)) (56 + 6 * f + i) (4) (v89)) (56 + 6 * f + i) (3) ((v41 * w) + v114))) rfl ?_
          refine v_aload_n C 1 dX0_become_127 rfl ?_
          refine v_dup C dX0_become_128 rfl ?_
          refine v_getf C (by omega) (by omega) (ct_beast (by omega) (by omega) (by omega) (by omega)) rfl 4 (by decide) wf32 hinX0 rfl dX0_become_129 ?_
          refine v_st (st' := [.int (iI (v89)), .ref (a (56 + 6 * f + i))]) (by rw [mu_nj (show (4 : Int) ≠ 3 by omega), mu_at]) ?_
          refine v_iload C 0 dX0_become_132 rfl ?_
          refine v_iadd C dX0_become_134 ?_
          refine v_puti C (cta_L a yc) (by omega) (by omega) (ct_beast (by omega) (by omega) (by omega) (by omega)) rfl 4 (by decide) wf32 hinX0 tyX0 tyX0_ok nmX0 rfl (by decide +kernel) (by simp) (cs_beast_4 (by omega) (by omega) (by omega) (by omega)) dX0_become_135 ?_
          refine v_g (g' := (mu (mu (mu (mu (mu (mu (mu g (56 + 6 * f + i) (0) (k)) (56 + 6 * f + i) (1) (w)) (56 + 6 * f + i) (2) (o)) (56 + 6 * f + i) (3) (v41 * w)) (56 + 6 * f + i) (4) (v89)) (56 + 6 * f + i) (3) ((v41 * w) + v114)) (56 + 6 * f + i) (4) (v89 + v114))) rfl ?_
          exact v_ret_v C rfl dX0_become_138 (setB_eq (by simp [mu]) (by simp [mu]) (by simp [mu]) (by simp [mu, hj41, hj114, vTo]; rcases hkk with h8 | h8 | h8 | h8 | h8 | h8 <;> simp [h8] <;> omega) (by simp [mu, hj89, hj114, vTo]; rcases hkk with h8 | h8 | h8 | h8 | h8 | h8 <;> simp [h8] <;> omega) (fun j9 h9 => by simp only [mu]; repeat rw [if_neg (by omega)]) (fun p9 h9 => by funext j9; simp [mu, h9]))
        · intro jn114
          try dsimp only at jn114
          refine v_aload_n C 0 dX0_become_89 rfl ?_
          refine v_iconst C dX0_become_90 ?_
          refine v_cV_i C (As := [.int (iI (4))]) (rest := []) (c_X0_isOf l D yc t1 t2 a A (mu (mu (mu (mu (mu g (56 + 6 * f + i) (0) (k)) (56 + 6 * f + i) (1) (w)) (56 + 6 * f + i) (2) (o)) (56 + 6 * f + i) (3) (v41 * w)) (56 + 6 * f + i) (4) (v89)) f i 4 k (by omega) (by omega) (by simp [mu]) (by omega) (by omega)) (cwV 1 C.hts gX0_become_X0_isOf rfl rfl rfl (by decide +kernel) ⟨by decide, by decide⟩) (fun H hP => va_recv C.hK hP (ci := 0) (q0 := (56 + 6 * f + i : Int).toNat) rfl (wo_is (by omega) (by omega) (ct_beast (by omega) (by omega) (by omega) (by omega)))) rfl rfl (Nat.le_of_ble_eq_true rfl) dX0_become_91 ?_
          intro r9 g9 h9
          rw [h9.1, h9.2]
          clear h9 g9 r9
          try dsimp only
          refine v_ifb_eq (tgt := 101) C dX0_become_94 (by decide) (fun c94 => ?_) (fun c94 => ?_)
          · skip
            refine v_aload_n C 0 dX0_become_101 rfl ?_
            refine v_iconst C dX0_become_102 ?_
            refine v_cV_i C (As := [.int (iI (5))]) (rest := []) (c_X0_isOf l D yc t1 t2 a A (mu (mu (mu (mu (mu g (56 + 6 * f + i) (0) (k)) (56 + 6 * f + i) (1) (w)) (56 + 6 * f + i) (2) (o)) (56 + 6 * f + i) (3) (v41 * w)) (56 + 6 * f + i) (4) (v89)) f i 5 k (by omega) (by omega) (by simp [mu]) (by omega) (by omega)) (cwV 1 C.hts gX0_become_X0_isOf rfl rfl rfl (by decide +kernel) ⟨by decide, by decide⟩) (fun H hP => va_recv C.hK hP (ci := 0) (q0 := (56 + 6 * f + i : Int).toNat) rfl (wo_is (by omega) (by omega) (ct_beast (by omega) (by omega) (by omega) (by omega)))) rfl rfl (Nat.le_of_ble_eq_true rfl) dX0_become_103 ?_
            intro r9 g9 h9
            rw [h9.1, h9.2]
            clear h9 g9 r9
            try dsimp only
            refine v_ifb_eq (tgt := 113) C dX0_become_106 (by decide) (fun c106 => ?_) (fun c106 => ?_)
            · skip
              refine v_iconst C dX0_become_113 ?_
              exact jn114 0 (by omega)
            · skip
              refine v_iconst C dX0_become_109 ?_
              refine v_goto (tgt := 114) C dX0_become_110 (by decide) ?_
              exact jn114 (-1) (by omega)
          · skip
            refine v_iconst C dX0_become_97 ?_
            refine v_goto (tgt := 114) C dX0_become_98 (by decide) ?_
            exact jn114 2 (by omega)
      · intro jn89
        try dsimp only at jn89
        refine v_aload_n C 0 dX0_become_71 rfl ?_
        refine v_iconst C dX0_become_72 ?_
        refine v_cV_i C (As := [.int (iI (2))]) (rest := []) (c_X0_isOf l D yc t1 t2 a A (mu (mu (mu (mu (mu g (56 + 6 * f + i) (0) (k)) (56 + 6 * f + i) (1) (w)) (56 + 6 * f + i) (2) (o)) (56 + 6 * f + i) (3) (v41 * w)) (56 + 6 * f + i) (4) (v63 * w)) f i 2 k (by omega) (by omega) (by simp [mu]) (by omega) (by omega)) (cwV 1 C.hts gX0_become_X0_isOf rfl rfl rfl (by decide +kernel) ⟨by decide, by decide⟩) (fun H hP => va_recv C.hK hP (ci := 0) (q0 := (56 + 6 * f + i : Int).toNat) rfl (wo_is (by omega) (by omega) (ct_beast (by omega) (by omega) (by omega) (by omega)))) rfl rfl (Nat.le_of_ble_eq_true rfl) dX0_become_73 ?_
        intro r9 g9 h9
        rw [h9.1, h9.2]
        clear h9 g9 r9
        try dsimp only
        refine v_ifb_eq (tgt := 89) C dX0_become_76 (by decide) (fun c76 => ?_) (fun c76 => ?_)
        · skip
          exact jn89 (v63 * w) (by rw [hj63]; rcases hkk with h8 | h8 | h8 | h8 | h8 | h8 <;> simp [h8] at c76 ⊢)
        · skip
          refine v_aload_n C 0 dX0_become_79 rfl ?_
          refine v_dup C dX0_become_80 rfl ?_
          refine v_getf C (by omega) (by omega) (ct_beast (by omega) (by omega) (by omega) (by omega)) rfl 4 (by decide) wf32 hinX0 rfl dX0_become_81 ?_
          refine v_st (st' := [.int (iI (v63 * w)), .ref (a (56 + 6 * f + i))]) (by rw [mu_at]) ?_
          refine v_iconst C dX0_become_84 ?_
          refine v_iadd C dX0_become_85 ?_
          refine v_puti C (cta_L a yc) (by omega) (by omega) (ct_beast (by omega) (by omega) (by omega) (by omega)) rfl 4 (by decide) wf32 hinX0 tyX0 tyX0_ok nmX0 rfl (by decide +kernel) (by simp) (cs_beast_4 (by omega) (by omega) (by omega) (by omega)) dX0_become_86 ?_
          refine v_g (g' := (mu (mu (mu (mu (mu g (56 + 6 * f + i) (0) (k)) (56 + 6 * f + i) (1) (w)) (56 + 6 * f + i) (2) (o)) (56 + 6 * f + i) (3) (v41 * w)) (56 + 6 * f + i) (4) ((v63 * w) + 3))) (mu_mu _ _ _ _ _) ?_
          exact jn89 ((v63 * w) + 3) (by rw [hj63]; rcases hkk with h8 | h8 | h8 | h8 | h8 | h8 <;> simp [h8] at c76 ⊢)
    · intro jn63
      try dsimp only at jn63
      refine v_aload_n C 0 dX0_become_50 rfl ?_
      refine v_iconst C dX0_become_51 ?_
      refine v_cV_i C (As := [.int (iI (1))]) (rest := [.ref (a (56 + 6 * f + i))]) (c_X0_isOf l D yc t1 t2 a A (mu (mu (mu (mu g (56 + 6 * f + i) (0) (k)) (56 + 6 * f + i) (1) (w)) (56 + 6 * f + i) (2) (o)) (56 + 6 * f + i) (3) (v41 * w)) f i 1 k (by omega) (by omega) (by simp [mu]) (by omega) (by omega)) (cwV 1 C.hts gX0_become_X0_isOf rfl rfl rfl (by decide +kernel) ⟨by decide, by decide⟩) (fun H hP => va_recv C.hK hP (ci := 0) (q0 := (56 + 6 * f + i : Int).toNat) rfl (wo_is (by omega) (by omega) (ct_beast (by omega) (by omega) (by omega) (by omega)))) rfl rfl (Nat.le_of_ble_eq_true rfl) dX0_become_52 ?_
      intro r9 g9 h9
      rw [h9.1, h9.2]
      clear h9 g9 r9
      try dsimp only
      refine v_ifb_eq (tgt := 62) C dX0_become_55 (by decide) (fun c55 => ?_) (fun c55 => ?_)
      · skip
        refine v_iconst C dX0_become_62 ?_
        exact jn63 2 (by omega)
      · skip
        refine v_iconst C dX0_become_58 ?_
        refine v_goto (tgt := 63) C dX0_become_59 (by decide) ?_
        exact jn63 1 (by omega)
  · intro jn41
    try dsimp only at jn41
    refine v_aload_n C 0 dX0_become_16 rfl ?_
    refine v_iconst C dX0_become_17 ?_
    refine v_cV_i C (As := [.int (iI (1))]) (rest := [.ref (a (56 + 6 * f + i))]) (c_X0_isOf l D yc t1 t2 a A (mu (mu (mu g (56 + 6 * f + i) (0) (k)) (56 + 6 * f + i) (1) (w)) (56 + 6 * f + i) (2) (o)) f i 1 k (by omega) (by omega) (by simp [mu]) (by omega) (by omega)) (cwV 1 C.hts gX0_become_X0_isOf rfl rfl rfl (by decide +kernel) ⟨by decide, by decide⟩) (fun H hP => va_recv C.hK hP (ci := 0) (q0 := (56 + 6 * f + i : Int).toNat) rfl (wo_is (by omega) (by omega) (ct_beast (by omega) (by omega) (by omega) (by omega)))) rfl rfl (Nat.le_of_ble_eq_true rfl) dX0_become_18 ?_
    intro r9 g9 h9
    rw [h9.1, h9.2]
    clear h9 g9 r9
    try dsimp only
    refine v_ifb_eq (tgt := 28) C dX0_become_21 (by decide) (fun c21 => ?_) (fun c21 => ?_)
    · skip
      refine v_aload_n C 0 dX0_become_28 rfl ?_
      refine v_iconst C dX0_become_29 ?_
      refine v_cV_i C (As := [.int (iI (3))]) (rest := [.ref (a (56 + 6 * f + i))]) (c_X0_isOf l D yc t1 t2 a A (mu (mu (mu g (56 + 6 * f + i) (0) (k)) (56 + 6 * f + i) (1) (w)) (56 + 6 * f + i) (2) (o)) f i 3 k (by omega) (by omega) (by simp [mu]) (by omega) (by omega)) (cwV 1 C.hts gX0_become_X0_isOf rfl rfl rfl (by decide +kernel) ⟨by decide, by decide⟩) (fun H hP => va_recv C.hK hP (ci := 0) (q0 := (56 + 6 * f + i : Int).toNat) rfl (wo_is (by omega) (by omega) (ct_beast (by omega) (by omega) (by omega) (by omega)))) rfl rfl (Nat.le_of_ble_eq_true rfl) dX0_become_30 ?_
      intro r9 g9 h9
      rw [h9.1, h9.2]
      clear h9 g9 r9
      try dsimp only
      refine v_ifb_eq (tgt := 40) C dX0_become_33 (by decide) (fun c33 => ?_) (fun c33 => ?_)
      · skip
        refine v_iconst C dX0_become_40 ?_
        exact jn41 2 (by omega)
      · skip
        refine v_iconst C dX0_become_36 ?_
        refine v_goto (tgt := 41) C dX0_become_37 (by decide) ?_
        exact jn41 4 (by omega)
    · skip
      refine v_iconst C dX0_become_24 ?_
      refine v_goto (tgt := 41) C dX0_become_25 (by decide) ?_
      exact jn41 1 (by omega)
