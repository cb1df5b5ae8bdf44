set_option maxRecDepth 100000 in
set_option maxHeartbeats 4000000 in
theorem c_X4_best (l : Launch) (D : va_G) (yc : Nat → ClassId) (t1 t2 : Nat) (a : Int → Nat) (A : Nat → Prop) (g : Mm) (n r : Int) (F : Int → Int) (hn : R32 n) (hr : R32 r) (HF : FR g 0 F) (HI : FI F) : Ci l yX4_best wsX4_best { frames := 3, cells := 0, slots := 0, locals := 70 } D yc t1 t2 A (cw a yc) [.ref (a (0)), .int (iI (n)), .int (iI (r))] g (fun r9 g' => r9 = (iI (if (n < 1 ∨ 8 < n) ∨ (r < 0 ∨ 5 < r) then -1 else if F 0 = 0 then -4 else apB F n (ab (btr F n) (pw n - 1).toNat))) ∧ g' = (if (n < 1 ∨ 8 < n) ∨ (r < 0 ∨ 5 < r) then g else if F 0 = 0 then g else mu (cpf (fil (mu g (6 + r) 1 n) (16 + r) n 0) (16 + r) 0 n (fun x9 => bt (ab (btr F n) (pw n - 1).toNat) (n - 1 - x9))) 0 7 (wkB n (ab (btr F n) (pw n - 1).toNat)))) := by
  refine start_i (cc := cX4_best) (nL := 9) (ret := (some .int)) (own := RX4) (by decide +kernel) rfl rfl (Nat.le_of_ble_eq_true rfl) ?_
  intro p e s m9 below meth c9 C
  have wf21 : Cond.fieldLink RX4 21 (TX4 2).1 (TX4 2).2.1 (TX4 2).2.2.1 ∈ wsX4_best := by decide +kernel
  have hinX4 : ∀ w ∈ u_ws RX4 TX4 10, w ∈ wsX4_best := by decide +kernel
  have wk198 : Cond.constant RX4 198 1000000 ∈ wsX4_best := by decide +kernel
  have wf11 : Cond.fieldLink RX4 11 (TX4 0).1 (TX4 0).2.1 (TX4 0).2.2.1 ∈ wsX4_best := by decide +kernel
  have wf74 : Cond.fieldLink RX4 74 (TX4 7).1 (TX4 7).2.1 (TX4 7).2.2.1 ∈ wsX4_best := by decide +kernel
  have wm190 : Cond.methodLink RX4 190 Lib.Math.abs.name ∈ wsX4_best := by decide +kernel
  have wnabs : Cond.static Lib.Math.abs.name ∈ wsX4_best := by decide +kernel
  have wmi : Cond.initialized "java/lang/Math" ∈ wsX4_best := by decide +kernel
  have woabs : Cond.code Lib.Math.abs.name Lib.Math.abs.code 1 (some .int) ∈ wsX4_best := by decide +kernel
  have hn := HI.n
  refine v_lv (lv' := [(0, .ref (a (0))), (1, .int (iI (n))), (2, .int (iI (r)))]) rfl ?_
  refine v_iload_n C 1 dX4_best_0 rfl ?_
  refine v_iconst C dX4_best_1 ?_
  refine v_bipush C dX4_best_2 (by decide) ?_
  refine v_cS_i C (As := [.int (iI (n)), .int (iI (1)), .int (iI (8))]) (rest := []) (c_X4_outside l D yc t1 t2 A (cw a yc) g n 1 8 (by omega) (by omega) (by omega)) (va_cwS 3 C.hts gX4_best_X4_outside rfl rfl rfl (by decide +kernel) ⟨by decide, by decide⟩) rfl rfl (Nat.le_of_ble_eq_true rfl) dX4_best_4 ?_
  intro r9 g9 h9
  rw [h9.1, h9.2]
  clear h9 g9 r9
  try dsimp only
  refine v_ifb_ne (tgt := 19) C dX4_best_7 (by decide) (fun c7 => ?_) (fun c7 => ?_)
  · skip
    refine v_iconst C dX4_best_19 ?_
    exact v_ret_i C rfl dX4_best_20 ⟨(by repeat (first | rfl | rw [if_pos (by omega)] | rw [if_neg (by omega)])), (by repeat (first | rfl | rw [if_pos (by omega)] | rw [if_neg (by omega)]))⟩
  · skip
    refine v_iload_n C 2 dX4_best_10 rfl ?_
    refine v_bipush C dX4_best_11 (by decide) ?_
    refine v_cS_i C (As := [.int (iI (r)), .int (iI (6))]) (rest := []) (c_X4_isNone l D yc t1 t2 A (cw a yc) g r 6 (by omega) (by omega)) (va_cwS 2 C.hts gX4_best_X4_isNone rfl rfl rfl (by decide +kernel) ⟨by decide, by decide⟩) rfl rfl (Nat.le_of_ble_eq_true rfl) dX4_best_13 ?_
    intro r9 g9 h9
    rw [h9.1, h9.2]
    clear h9 g9 r9
    try dsimp only
    refine v_ifb_eq (tgt := 21) C dX4_best_16 (by decide) (fun c16 => ?_) (fun c16 => ?_)
    · skip
      refine v_aload_n C 0 dX4_best_21 rfl ?_
      refine v_getf C (by omega) (by omega) ct_cow rfl 2 (by decide) wf21 hinX4 rfl dX4_best_22 ?_
      refine v_st (st' := [.ref (a (26 + 0))]) rfl ?_
      refine v_cV_i C (As := []) (rest := []) (c_X1_isMissing l D yc t1 t2 a A g 0 F (by omega) HF HI) (cwV 0 C.hts gX4_best_X1_isMissing rfl rfl rfl (by decide +kernel) ⟨by decide, by decide⟩) (fun H hP => va_recv C.hK hP (ci := 1) (q0 := (26 + 0 : Int).toNat) rfl (wo_is (by omega) (by omega) (ct_farm (by omega) (by omega)))) rfl rfl (Nat.le_of_ble_eq_true rfl) dX4_best_25 ?_
      intro r9 g9 h9
      rw [h9.1, h9.2]
      clear h9 g9 r9
      try dsimp only
      refine v_ifb_eq (tgt := 34) C dX4_best_28 (by decide) (fun c28 => ?_) (fun c28 => ?_)
      · skip
        have hp8 := pw_8 (n := n) (by omega) (by omega)
        refine v_iconst C dX4_best_34 ?_
        refine v_istore_n (lv' := [(3, .int (iI (0))), (0, .ref (a (0))), (1, .int (iI (n))), (2, .int (iI (r)))]) C dX4_best_35 (by decide) rfl ?_
        refine v_ldc (z := 1000000) C wk198 dX4_best_36 (by decide) ?_
        refine v_istore (lv' := [(4, .int (iI (1000000))), (3, .int (iI (0))), (0, .ref (a (0))), (1, .int (iI (n))), (2, .int (iI (r)))]) C dX4_best_38 (by decide) rfl ?_
        refine v_ldc (z := 1000000) C wk198 dX4_best_40 (by decide) ?_
        refine v_istore (lv' := [(5, .int (iI (1000000))), (4, .int (iI (1000000))), (3, .int (iI (0))), (0, .ref (a (0))), (1, .int (iI (n))), (2, .int (iI (r)))]) C dX4_best_42 (by decide) rfl ?_
        refine v_iconst C dX4_best_44 ?_
        refine v_istore (lv' := [(6, .int (iI (0))), (5, .int (iI (1000000))), (4, .int (iI (1000000))), (3, .int (iI (0))), (0, .ref (a (0))), (1, .int (iI (n))), (2, .int (iI (r)))]) C dX4_best_45 (by decide) rfl ?_
        refine v_lv (congrArg (fun x9 => ([(6, .int (iI x9)), (5, .int (iI (1000000))), (4, .int (iI (1000000))), (3, .int (iI (0))), (0, .ref (a (0))), (1, .int (iI (n))), (2, .int (iI (r)))] : List (Nat × Value))) (show (0) = (((0 : Int))) by first | rfl | omega | (simp; done))) ?_
        refine v_lv (congrArg (fun x9 => ([(6, .int (iI (((0 : Int))))), (5, .int (iI x9)), (4, .int (iI (1000000))), (3, .int (iI (0))), (0, .ref (a (0))), (1, .int (iI (n))), (2, .int (iI (r)))] : List (Nat × Value))) (show (1000000) = (((1000000 : Int))) by first | rfl | omega | (simp; done))) ?_
        refine v_lv (congrArg (fun x9 => ([(6, .int (iI (((0 : Int))))), (5, .int (iI (((1000000 : Int))))), (4, .int (iI x9)), (3, .int (iI (0))), (0, .ref (a (0))), (1, .int (iI (n))), (2, .int (iI (r)))] : List (Nat × Value))) (show (1000000) = (((1000000 : Int))) by first | rfl | omega | (simp; done))) ?_
        refine v_lv (congrArg (fun x9 => ([(6, .int (iI (((0 : Int))))), (5, .int (iI (((1000000 : Int))))), (4, .int (iI (((1000000 : Int))))), (3, .int (iI x9)), (0, .ref (a (0))), (1, .int (iI (n))), (2, .int (iI (r)))] : List (Nat × Value))) (show (0) = (((0 : Int))) by first | rfl | omega | (simp; done))) ?_
        refine v_loop4 (fun (x : Int) (y : Int) (z : Int) (t : Int) => (pw n - t).toNat) (fun (x : Int) (y : Int) (z : Int) (t : Int) => 0 ≤ t ∧ t ≤ pw n ∧ (t = 0 → x = 0 ∧ y = 1000000 ∧ z = 1000000) ∧ (0 < t → x = ab (btr F n) (t - 1).toNat ∧ y = apB F n x ∧ z = wkB n x)) (fun (x : Int) (y : Int) (z : Int) (t : Int) => [(6, .int (iI (t))), (5, .int (iI (z))), (4, .int (iI (y))), (3, .int (iI (x))), (0, .ref (a (0))), (1, .int (iI (n))), (2, .int (iI (r)))]) (fun (x : Int) (y : Int) (z : Int) (t : Int) => g) ?_ 0 1000000 1000000 0 ⟨by omega, by omega, fun _ => ⟨rfl, rfl, rfl⟩, fun h => absurd h (by omega)⟩
        intro x y z t hI47 ih47
        try dsimp only at ih47 ⊢
        refine v_iload C 0 dX4_best_47 rfl ?_
        refine v_iconst C dX4_best_49 ?_
        refine v_iload_n C 5 dX4_best_50 rfl ?_
        refine v_ishl (z := (iI (pw n))) C dX4_best_51 (shl_1 (by omega) (by omega)) ?_
        refine v_icmp_ge (tgt := 113) C dX4_best_52 (by decide) (by omega) (by omega) (fun c52 => ?_) (fun c52 => ?_)
        · skip
          have hq := hI47.2.2.2 (by omega)
          have htp : (t - 1).toNat = (pw n - 1).toNat := by omega
          rw [htp] at hq
          have hab := ab_r (btr F n) (pw n - 1).toNat
          refine v_lv (congrArg (fun x9 => ([(6, .int (iI (t))), (5, .int (iI (z))), (4, .int (iI (y))), (3, .int (iI x9)), (0, .ref (a (0))), (1, .int (iI (n))), (2, .int (iI (r)))] : List (Nat × Value))) (show (x) = ((ab (btr F n) (pw n - 1).toNat)) by exact hq.1)) ?_
          refine v_lv (congrArg (fun x9 => ([(6, .int (iI (t))), (5, .int (iI (z))), (4, .int (iI x9)), (3, .int (iI ((ab (btr F n) (pw n - 1).toNat)))), (0, .ref (a (0))), (1, .int (iI (n))), (2, .int (iI (r)))] : List (Nat × Value))) (show (y) = (apB F n (ab (btr F n) (pw n - 1).toNat)) by rw [hq.2.1, hq.1])) ?_
          refine v_lv (congrArg (fun x9 => ([(6, .int (iI (t))), (5, .int (iI x9)), (4, .int (iI (apB F n (ab (btr F n) (pw n - 1).toNat)))), (3, .int (iI ((ab (btr F n) (pw n - 1).toNat)))), (0, .ref (a (0))), (1, .int (iI (n))), (2, .int (iI (r)))] : List (Nat × Value))) (show (z) = (wkB n (ab (btr F n) (pw n - 1).toNat)) by rw [hq.2.2, hq.1])) ?_
          refine v_aload_n C 4 dX4_best_113 rfl ?_
          refine v_getf C (by omega) (by omega) ct_cow rfl 0 (by decide) wf11 hinX4 rfl dX4_best_114 ?_
          refine v_iload_n C 6 dX4_best_117 rfl ?_
          refine v_aaload (f := fun j => 6 + j) C (by omega) (by omega) 4 rfl ct_rowsA (by omega) (by omega) (by decide) dX4_best_118 ?_
          refine v_iload_n C 3 dX4_best_119 rfl ?_
          refine v_iload_n C 5 dX4_best_120 rfl ?_
          refine v_cS_v C (As := [.ref (a (6 + r)), .int (iI ((ab (btr F n) (pw n - 1).toNat))), .int (iI (n))]) (rest := []) (c_X4_layCode l D yc t1 t2 a A g r ((ab (btr F n) (pw n - 1).toNat)) n (by omega) (by omega) (by omega)) (va_cwS 3 C.hts gX4_best_X4_layCode rfl rfl rfl (by decide +kernel) ⟨by decide, by decide⟩) rfl rfl (Nat.le_of_ble_eq_true rfl) dX4_best_121 ?_
          intro g9 h9
          rw [h9]
          clear h9 g9
          try dsimp only
          refine v_aload_n C 4 dX4_best_124 rfl ?_
          refine v_iload C 1 dX4_best_125 rfl ?_
          refine v_puti C (cta_L a yc) (by omega) (by omega) ct_cow rfl 7 (by decide) wf74 hinX4 tyX4 tyX4_ok nmX4 rfl (by decide +kernel) (by simp) cs_cow_7 dX4_best_127 ?_
          refine v_g (g' := (mu ((cpf (fil (mu g (6 + r) 1 n) (16 + r) n 0) (16 + r) 0 n (fun x9 => bt ((ab (btr F n) (pw n - 1).toNat)) (n - 1 - x9)))) (0) (7) (wkB n (ab (btr F n) (pw n - 1).toNat)))) rfl ?_
          refine v_iload C 2 dX4_best_130 rfl ?_
          exact v_ret_i C rfl dX4_best_132 ⟨(by repeat (first | rfl | rw [if_pos (by omega)] | rw [if_neg (by omega)])), (by repeat (first | rfl | rw [if_pos (by omega)] | rw [if_neg (by omega)]))⟩
        · skip
          have hb9 := sI_bd (h := apS F n t) (B := 9) (n := n) (fun e _ _ => by have := mOn9 HI (by omega) e; unfold apS; split <;> omega) (by omega)
          have a2 := apB_bd HI (by omega) (n := n) (by omega) (by omega) t
          have w2 := wkB_bd (n := n) (by omega) t
          have a1 := apB_bd HI (by omega) (n := n) (by omega) (by omega) x
          have w1 := wkB_bd (n := n) (by omega) x
          have hyz : (y = 1000000 ∧ z = 1000000) ∨ (0 < t ∧ y = apB F n x ∧ z = wkB n x) := (Classical.em (t = 0)).elim (fun h9 => Or.inl (hI47.2.2.1 h9).2) (fun h9 => Or.inr ⟨by omega, (hI47.2.2.2 (by omega)).2⟩)
          refine v_aload_n C 4 dX4_best_55 rfl ?_
          refine v_iload C 0 dX4_best_56 rfl ?_
          refine v_iload_n C 5 dX4_best_58 rfl ?_
          refine v_cV_i C (As := [.int (iI (t)), .int (iI (n))]) (rest := []) (c_X4_leadByCode l D yc t1 t2 a A g t n F (by omega) (by omega) HF HI (by omega) (by omega) (by omega)) (cwV 2 C.hts gX4_best_X4_leadByCode rfl rfl rfl (by decide +kernel) ⟨by decide, by decide⟩) (fun H hP => va_recv C.hK hP (ci := 4) (q0 := (0 : Int).toNat) rfl (wo_is (by omega) (by omega) ct_cow)) rfl rfl (Nat.le_of_ble_eq_true rfl) dX4_best_59 ?_
          intro r9 g9 h9
          rw [h9.1, h9.2]
          clear h9 g9 r9
          try dsimp only
          refine v_st (st' := [.int (iI (-sI (apS F n t) n))]) (by rw [ap_ld (by omega)]) ?_
          refine v_mabs C wm190 wnabs wmi woabs (by decide) (Nat.le_of_ble_eq_true rfl) (by omega) dX4_best_62 ?_
          refine v_st (st' := [.int (iI (apB F n t))]) (by rw [show (if 0 ≤ -sI (apS F n t) n then -sI (apS F n t) n else - -sI (apS F n t) n) = apB F n t by unfold apB; (repeat' split) <;> omega]) ?_
          refine v_istore (lv' := [(7, .int (iI (apB F n t))), (6, .int (iI (t))), (5, .int (iI (z))), (4, .int (iI (y))), (3, .int (iI (x))), (0, .ref (a (0))), (1, .int (iI (n))), (2, .int (iI (r)))]) C dX4_best_65 (by decide) rfl ?_
          refine v_iload C 1 dX4_best_67 rfl ?_
          refine v_iload_n C 6 dX4_best_69 rfl ?_
          refine v_cS_i C (As := [.int (iI (t)), .int (iI (n))]) (rest := []) (c_X4_walksByCode l D yc t1 t2 A (cw a yc) g t n (by omega) (by omega)) (va_cwS 2 C.hts gX4_best_X4_walksByCode rfl rfl rfl (by decide +kernel) ⟨by decide, by decide⟩) rfl rfl (Nat.le_of_ble_eq_true rfl) dX4_best_70 ?_
          intro r9 g9 h9
          rw [h9.1, h9.2]
          clear h9 g9 r9
          try dsimp only
          refine v_istore (lv' := [(8, .int (iI (wkB n t))), (7, .int (iI (apB F n t))), (6, .int (iI (t))), (5, .int (iI (z))), (4, .int (iI (y))), (3, .int (iI (x))), (0, .ref (a (0))), (1, .int (iI (n))), (2, .int (iI (r)))]) C dX4_best_73 (by decide) rfl ?_
          refine v_iload C 1 dX4_best_75 rfl ?_
          refine v_iload C 4 dX4_best_77 rfl ?_
          refine v_icmp_lt (tgt := 96) C dX4_best_79 (by decide) (by omega) (by omega) (fun c79 => ?_) (fun c79 => ?_)
          · skip
            refine v_iload C 2 dX4_best_96 rfl ?_
            refine v_istore_n (lv' := [(3, .int (iI (t))), (8, .int (iI (wkB n t))), (7, .int (iI (apB F n t))), (6, .int (iI (t))), (5, .int (iI (z))), (4, .int (iI (y))), (0, .ref (a (0))), (1, .int (iI (n))), (2, .int (iI (r)))]) C dX4_best_98 (by decide) rfl ?_
            refine v_iload C 2 dX4_best_99 rfl ?_
            refine v_istore (lv' := [(4, .int (iI (apB F n t))), (3, .int (iI (t))), (8, .int (iI (wkB n t))), (7, .int (iI (apB F n t))), (6, .int (iI (t))), (5, .int (iI (z))), (0, .ref (a (0))), (1, .int (iI (n))), (2, .int (iI (r)))]) C dX4_best_101 (by decide) rfl ?_
            refine v_iload C 2 dX4_best_103 rfl ?_
            refine v_istore (lv' := [(5, .int (iI (wkB n t))), (4, .int (iI (apB F n t))), (3, .int (iI (t))), (8, .int (iI (wkB n t))), (7, .int (iI (apB F n t))), (6, .int (iI (t))), (0, .ref (a (0))), (1, .int (iI (n))), (2, .int (iI (r)))]) C dX4_best_105 (by decide) rfl ?_
            refine v_iinc (z' := t + 1) (lv' := [(6, .int (iI (t + 1))), (5, .int (iI (wkB n t))), (4, .int (iI (apB F n t))), (3, .int (iI (t))), (8, .int (iI (wkB n t))), (7, .int (iI (apB F n t))), (0, .ref (a (0))), (1, .int (iI (n))), (2, .int (iI (r)))]) C 5 dX4_best_107 rfl (by omega) (by decide) rfl ?_
            refine v_goto (tgt := 47) C dX4_best_110 (by decide) ?_
            refine v_sub (lv' := [(6, .int (iI (t + 1))), (5, .int (iI (wkB n t))), (4, .int (iI (apB F n t))), (3, .int (iI (t))), (0, .ref (a (0))), (1, .int (iI (n))), (2, .int (iI (r)))]) [0, 1, 2, 3, 6, 7, 8] rfl ?_
            exact ih47 t (apB F n t) (wkB n t) (t + 1) ⟨by omega, by omega, fun h => by omega, fun _ => by
        rw [show t + 1 - 1 = t by omega]
        by_cases h0 : t = 0
        · first | (subst h0; exact ⟨rfl, rfl, rfl⟩) | (exfalso; have := hI47.2.2.1 h0; omega)
        · have hq := hI47.2.2.2 (by omega)
          rw [ab_s (t := t) (by omega), ← hq.1]
          first | (rw [if_pos (by exact decide_eq_true (by omega))]; exact ⟨rfl, rfl, rfl⟩) | (rw [if_neg (by exact fun h => absurd (of_decide_eq_true h) (by omega))]; exact ⟨rfl, hq.2⟩)⟩ (by omega)
          · skip
            refine v_iload C 1 dX4_best_82 rfl ?_
            refine v_iload C 4 dX4_best_84 rfl ?_
            refine v_icmp_ne (tgt := 107) C dX4_best_86 (by decide) (by omega) (by omega) (fun c86 => ?_) (fun c86 => ?_)
            · skip
              refine v_iinc (z' := t + 1) (lv' := [(6, .int (iI (t + 1))), (8, .int (iI (wkB n t))), (7, .int (iI (apB F n t))), (5, .int (iI (z))), (4, .int (iI (y))), (3, .int (iI (x))), (0, .ref (a (0))), (1, .int (iI (n))), (2, .int (iI (r)))]) C 2 dX4_best_107 rfl (by omega) (by decide) rfl ?_
              refine v_goto (tgt := 47) C dX4_best_110 (by decide) ?_
              refine v_sub (lv' := [(6, .int (iI (t + 1))), (5, .int (iI (z))), (4, .int (iI (y))), (3, .int (iI (x))), (0, .ref (a (0))), (1, .int (iI (n))), (2, .int (iI (r)))]) [0, 3, 4, 5, 6, 7, 8] rfl ?_
              exact ih47 x y z (t + 1) ⟨by omega, by omega, fun h => by omega, fun _ => by
        rw [show t + 1 - 1 = t by omega]
        by_cases h0 : t = 0
        · first | (subst h0; exact ⟨rfl, rfl, rfl⟩) | (exfalso; have := hI47.2.2.1 h0; omega)
        · have hq := hI47.2.2.2 (by omega)
          rw [ab_s (t := t) (by omega), ← hq.1]
          first | (rw [if_pos (by exact decide_eq_true (by omega))]; exact ⟨rfl, rfl, rfl⟩) | (rw [if_neg (by exact fun h => absurd (of_decide_eq_true h) (by omega))]; exact ⟨rfl, hq.2⟩)⟩ (by omega)
            · skip
              refine v_iload C 0 dX4_best_89 rfl ?_
              refine v_iload C 3 dX4_best_91 rfl ?_
              refine v_icmp_ge (tgt := 107) C dX4_best_93 (by decide) (by omega) (by omega) (fun c93 => ?_) (fun c93 => ?_)
              · skip
                refine v_iinc (z' := t + 1) (lv' := [(6, .int (iI (t + 1))), (8, .int (iI (wkB n t))), (7, .int (iI (apB F n t))), (5, .int (iI (z))), (4, .int (iI (y))), (3, .int (iI (x))), (0, .ref (a (0))), (1, .int (iI (n))), (2, .int (iI (r)))]) C 2 dX4_best_107 rfl (by omega) (by decide) rfl ?_
                refine v_goto (tgt := 47) C dX4_best_110 (by decide) ?_
                refine v_sub (lv' := [(6, .int (iI (t + 1))), (5, .int (iI (z))), (4, .int (iI (y))), (3, .int (iI (x))), (0, .ref (a (0))), (1, .int (iI (n))), (2, .int (iI (r)))]) [0, 3, 4, 5, 6, 7, 8] rfl ?_
                exact ih47 x y z (t + 1) ⟨by omega, by omega, fun h => by omega, fun _ => by
        rw [show t + 1 - 1 = t by omega]
        by_cases h0 : t = 0
        · first | (subst h0; exact ⟨rfl, rfl, rfl⟩) | (exfalso; have := hI47.2.2.1 h0; omega)
        · have hq := hI47.2.2.2 (by omega)
          rw [ab_s (t := t) (by omega), ← hq.1]
          first | (rw [if_pos (by exact decide_eq_true (by omega))]; exact ⟨rfl, rfl, rfl⟩) | (rw [if_neg (by exact fun h => absurd (of_decide_eq_true h) (by omega))]; exact ⟨rfl, hq.2⟩)⟩ (by omega)
              · skip
                refine v_iload C 2 dX4_best_96 rfl ?_
                refine v_istore_n (lv' := [(3, .int (iI (t))), (8, .int (iI (wkB n t))), (7, .int (iI (apB F n t))), (6, .int (iI (t))), (5, .int (iI (z))), (4, .int (iI (y))), (0, .ref (a (0))), (1, .int (iI (n))), (2, .int (iI (r)))]) C dX4_best_98 (by decide) rfl ?_
                refine v_iload C 2 dX4_best_99 rfl ?_
                refine v_istore (lv' := [(4, .int (iI (apB F n t))), (3, .int (iI (t))), (8, .int (iI (wkB n t))), (7, .int (iI (apB F n t))), (6, .int (iI (t))), (5, .int (iI (z))), (0, .ref (a (0))), (1, .int (iI (n))), (2, .int (iI (r)))]) C dX4_best_101 (by decide) rfl ?_
                refine v_iload C 2 dX4_best_103 rfl ?_
                refine v_istore (lv' := [(5, .int (iI (wkB n t))), (4, .int (iI (apB F n t))), (3, .int (iI (t))), (8, .int (iI (wkB n t))), (7, .int (iI (apB F n t))), (6, .int (iI (t))), (0, .ref (a (0))), (1, .int (iI (n))), (2, .int (iI (r)))]) C dX4_best_105 (by decide) rfl ?_
                refine v_iinc (z' := t + 1) (lv' := [(6, .int (iI (t + 1))), (5, .int (iI (wkB n t))), (4, .int (iI (apB F n t))), (3, .int (iI (t))), (8, .int (iI (wkB n t))), (7, .int (iI (apB F n t))), (0, .ref (a (0))), (1, .int (iI (n))), (2, .int (iI (r)))]) C 5 dX4_best_107 rfl (by omega) (by decide) rfl ?_
                refine v_goto (tgt := 47) C dX4_best_110 (by decide) ?_
                refine v_sub (lv' := [(6, .int (iI (t + 1))), (5, .int (iI (wkB n t))), (4, .int (iI (apB F n t))), (3, .int (iI (t))), (0, .ref (a (0))), (1, .int (iI (n))), (2, .int (iI (r)))]) [0, 1, 2, 3, 6, 7, 8] rfl ?_
                exact ih47 t (apB F n t) (wkB n t) (t + 1) ⟨by omega, by omega, fun h => by omega, fun _ => by
        rw [show t + 1 - 1 = t by omega]
        by_cases h0 : t = 0
        · first | (subst h0; exact ⟨rfl, rfl, rfl⟩) | (exfalso; have := hI47.2.2.1 h0; omega)
        · have hq := hI47.2.2.2 (by omega)
          rw [ab_s (t := t) (by omega), ← hq.1]
          first | (rw [if_pos (by exact decide_eq_true (by omega))]; exact ⟨rfl, rfl, rfl⟩) | (rw [if_neg (by exact fun h => absurd (of_decide_eq_true h) (by omega))]; exact ⟨rfl, hq.2⟩)⟩ (by omega)
      · skip
        refine v_bipush C dX4_best_31 (by decide) ?_
        exact v_ret_i C rfl dX4_best_33 ⟨(by repeat (first | rfl | rw [if_pos (by omega)] | rw [if_neg (by omega)])), (by repeat (first | rfl | rw [if_pos (by omega)] | rw [if_neg (by omega)]))⟩
    · skip
      refine v_iconst C dX4_best_19 ?_
      exact v_ret_i C rfl dX4_best_20 ⟨(by repeat (first | rfl | rw [if_pos (by omega)] | rw [if_neg (by omega)])), (by repeat (first | rfl | rw [if_pos (by omega)] | rw [if_neg (by omega)]))⟩
