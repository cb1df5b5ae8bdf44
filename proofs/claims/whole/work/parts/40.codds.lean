set_option maxRecDepth 100000 in
set_option maxHeartbeats 4000000 in
theorem c_X4_odds (l : Launch) (D : va_G) (yc : Nat → ClassId) (t1 t2 : Nat) (a : Int → Nat) (A : Nat → Prop) (g : Mm) (q n x : Int) (F : Int → Int) (hq : R32 q) (hn : R32 n) (hx : R32 x) (HF : FR g 0 F) (HI : FI F) : Ci l yX4_odds wsX4_odds { frames := 2, cells := 0, slots := 0, locals := 56 } D yc t1 t2 A (cw a yc) [.ref (a (0)), .int (iI (q)), .int (iI (n)), .int (iI (x))] g (fun r9 g' => r9 = (iI (if (q < 0 ∨ 1 < q) ∨ (n < 0 ∨ 8 < n) ∨ (x < 0 ∨ 12 < x) then -1 else if F 0 = 0 then -4 else 1)) ∧ g' = (if (q < 0 ∨ 1 < q) ∨ (n < 0 ∨ 8 < n) ∨ (x < 0 ∨ 12 < x) then g else if F 0 = 0 then g else mu (mu g 0 8 ((od F q x n.toNat) / (Int.gcd (od F q x n.toNat) (pr 12 n.toNat) : Int))) 0 9 ((pr 12 n.toNat) / (Int.gcd (od F q x n.toNat) (pr 12 n.toNat) : Int)))) := by
  refine start_i (cc := cX4_odds) (nL := 11) (ret := (some .int)) (own := RX4) (by decide +kernel) rfl rfl (Nat.le_of_ble_eq_true rfl) ?_
  intro p e s m9 below meth c9 C
  have wf21 : Cond.fieldLink RX4 21 (TX4 2).1 (TX4 2).2.1 (TX4 2).2.2.1 ∈ wsX4_odds := by decide +kernel
  have hinX4 : ∀ w ∈ u_ws RX4 TX4 10, w ∈ wsX4_odds := by decide +kernel
  have wk263 : Cond.constantLong RX4 263 12 ∈ wsX4_odds := by decide +kernel
  have wf158 : Cond.fieldLink RX4 158 (TX1 9).1 (TX1 9).2.1 (TX1 9).2.2.1 ∈ wsX4_odds := by decide +kernel
  have hinX1 : ∀ w ∈ u_ws RX1 TX1 11, w ∈ wsX4_odds := by decide +kernel
  have hn := HI.n
  have htd := HI.td
  refine v_lv (lv' := [(0, .ref (a (0))), (1, .int (iI (q))), (2, .int (iI (n))), (3, .int (iI (x)))]) rfl ?_
  refine v_iload_n C 1 dX4_odds_0 rfl ?_
  refine v_cS_i C (As := [.int (iI (q))]) (rest := []) (c_X4_isNoFarm l D yc t1 t2 A (cw a yc) g q (by omega)) (va_cwS 1 C.hts gX4_odds_X4_isNoFarm rfl rfl rfl (by decide +kernel) ⟨by decide, by decide⟩) rfl rfl (Nat.le_of_ble_eq_true rfl) dX4_odds_1 ?_
  intro r9 g9 h9
  rw [h9.1, h9.2]
  clear h9 g9 r9
  try dsimp only
  refine v_ifb_ne (tgt := 27) C dX4_odds_4 (by decide) (fun c4 => ?_) (fun c4 => ?_)
  · skip
    refine v_iconst C dX4_odds_27 ?_
    exact v_ret_i C rfl dX4_odds_28 ⟨(by repeat (first | rfl | rw [if_pos (by omega)] | rw [if_neg (by omega)])), (by repeat (first | rfl | rw [if_pos (by omega)] | rw [if_neg (by omega)]))⟩
  · skip
    refine v_iload_n C 2 dX4_odds_7 rfl ?_
    refine v_iconst C dX4_odds_8 ?_
    refine v_bipush C dX4_odds_9 (by decide) ?_
    refine v_cS_i C (As := [.int (iI (n)), .int (iI (0)), .int (iI (8))]) (rest := []) (c_X4_outside l D yc t1 t2 A (cw a yc) g n 0 8 (by omega) (by omega) (by omega)) (va_cwS 3 C.hts gX4_odds_X4_outside rfl rfl rfl (by decide +kernel) ⟨by decide, by decide⟩) rfl rfl (Nat.le_of_ble_eq_true rfl) dX4_odds_11 ?_
    intro r9 g9 h9
    rw [h9.1, h9.2]
    clear h9 g9 r9
    try dsimp only
    refine v_ifb_ne (tgt := 27) C dX4_odds_14 (by decide) (fun c14 => ?_) (fun c14 => ?_)
    · skip
      refine v_iconst C dX4_odds_27 ?_
      exact v_ret_i C rfl dX4_odds_28 ⟨(by repeat (first | rfl | rw [if_pos (by omega)] | rw [if_neg (by omega)])), (by repeat (first | rfl | rw [if_pos (by omega)] | rw [if_neg (by omega)]))⟩
    · skip
      refine v_iload_n C 3 dX4_odds_17 rfl ?_
      refine v_iconst C dX4_odds_18 ?_
      refine v_bipush C dX4_odds_19 (by decide) ?_
      refine v_cS_i C (As := [.int (iI (x)), .int (iI (0)), .int (iI (12))]) (rest := []) (c_X4_outside l D yc t1 t2 A (cw a yc) g x 0 12 (by omega) (by omega) (by omega)) (va_cwS 3 C.hts gX4_odds_X4_outside rfl rfl rfl (by decide +kernel) ⟨by decide, by decide⟩) rfl rfl (Nat.le_of_ble_eq_true rfl) dX4_odds_21 ?_
      intro r9 g9 h9
      rw [h9.1, h9.2]
      clear h9 g9 r9
      try dsimp only
      refine v_ifb_eq (tgt := 29) C dX4_odds_24 (by decide) (fun c24 => ?_) (fun c24 => ?_)
      · skip
        refine v_aload_n C 0 dX4_odds_29 rfl ?_
        refine v_getf C (by omega) (by omega) ct_cow rfl 2 (by decide) wf21 hinX4 rfl dX4_odds_30 ?_
        refine v_st (st' := [.ref (a (26 + 0))]) rfl ?_
        refine v_cV_i C (As := []) (rest := []) (c_X1_isMissing l D yc t1 t2 a A g 0 F (by omega) HF HI) (cwV 0 C.hts gX4_odds_X1_isMissing rfl rfl rfl (by decide +kernel) ⟨by decide, by decide⟩) (fun H hP => va_recv C.hK hP (ci := 1) (q0 := (26 + 0 : Int).toNat) rfl (wo_is (by omega) (by omega) (ct_farm (by omega) (by omega)))) rfl rfl (Nat.le_of_ble_eq_true rfl) dX4_odds_33 ?_
        intro r9 g9 h9
        rw [h9.1, h9.2]
        clear h9 g9 r9
        try dsimp only
        refine v_ifb_eq (tgt := 42) C dX4_odds_36 (by decide) (fun c36 => ?_) (fun c36 => ?_)
        · skip
          refine v_lconst (z := 0) C dX4_odds_42 (by decide) ?_
          refine v_lstore (lv' := [(4, .long (lI (0))), (0, .ref (a (0))), (1, .int (iI (q))), (2, .int (iI (n))), (3, .int (iI (x)))]) C dX4_odds_43 (by decide) rfl ?_
          refine v_lconst (z := 1) C dX4_odds_45 (by decide) ?_
          refine v_lstore (lv' := [(6, .long (lI (1))), (4, .long (lI (0))), (0, .ref (a (0))), (1, .int (iI (q))), (2, .int (iI (n))), (3, .int (iI (x)))]) C dX4_odds_46 (by decide) rfl ?_
          refine v_lconst (z := 1) C dX4_odds_48 (by decide) ?_
          refine v_lstore (lv' := [(8, .long (lI (1))), (6, .long (lI (1))), (4, .long (lI (0))), (0, .ref (a (0))), (1, .int (iI (q))), (2, .int (iI (n))), (3, .int (iI (x)))]) C dX4_odds_49 (by decide) rfl ?_
          refine v_iconst C dX4_odds_51 ?_
          refine v_istore (lv' := [(10, .int (iI (0))), (8, .long (lI (1))), (6, .long (lI (1))), (4, .long (lI (0))), (0, .ref (a (0))), (1, .int (iI (q))), (2, .int (iI (n))), (3, .int (iI (x)))]) C dX4_odds_52 (by decide) rfl ?_
          refine v_lv (congrArg (fun x9 => ([(10, .int (iI x9)), (8, .long (lI (1))), (6, .long (lI (1))), (4, .long (lI (0))), (0, .ref (a (0))), (1, .int (iI (q))), (2, .int (iI (n))), (3, .int (iI (x)))] : List (Nat × Value))) (show (0) = (((0 : Int))) by first | rfl | omega | (simp; done))) ?_
          refine v_lv (congrArg (fun x9 => ([(10, .int (iI (((0 : Int))))), (8, .long (lI x9)), (6, .long (lI (1))), (4, .long (lI (0))), (0, .ref (a (0))), (1, .int (iI (q))), (2, .int (iI (n))), (3, .int (iI (x)))] : List (Nat × Value))) (show (1) = (pr 12 ((0 : Int)).toNat) by first | rfl | omega | (simp; done))) ?_
          refine v_lv (congrArg (fun x9 => ([(10, .int (iI (((0 : Int))))), (8, .long (lI (pr 12 ((0 : Int)).toNat))), (6, .long (lI x9)), (4, .long (lI (0))), (0, .ref (a (0))), (1, .int (iI (q))), (2, .int (iI (n))), (3, .int (iI (x)))] : List (Nat × Value))) (show (1) = (pr (12 - x) ((0 : Int)).toNat) by first | rfl | omega | (simp; done))) ?_
          refine v_lv (congrArg (fun x9 => ([(10, .int (iI (((0 : Int))))), (8, .long (lI (pr 12 ((0 : Int)).toNat))), (6, .long (lI (pr (12 - x) ((0 : Int)).toNat))), (4, .long (lI x9)), (0, .ref (a (0))), (1, .int (iI (q))), (2, .int (iI (n))), (3, .int (iI (x)))] : List (Nat × Value))) (show (0) = (od F q x ((0 : Int)).toNat) by first | rfl | omega | (simp; done))) ?_
          refine v_loop1 (fun (t : Int) => (n - t).toNat) (fun (t : Int) => 0 ≤ t ∧ t ≤ n) (fun (t : Int) => [(10, .int (iI (t))), (8, .long (lI (pr 12 t.toNat))), (6, .long (lI (pr (12 - x) t.toNat))), (4, .long (lI (od F q x t.toNat))), (0, .ref (a (0))), (1, .int (iI (q))), (2, .int (iI (n))), (3, .int (iI (x)))]) (fun (t : Int) => g) ?_ 0 (by omega)
          intro t hI54 ih54
          try dsimp only at ih54 ⊢
          refine v_iload C 0 dX4_odds_54 rfl ?_
          refine v_iload_n C 6 dX4_odds_56 rfl ?_
          refine v_icmp_ge (tgt := 123) C dX4_odds_57 (by decide) (by omega) (by omega) (fun c57 => ?_) (fun c57 => ?_)
          · skip
            have htn : t = n := by omega
            have hob := od_bd (F := F) (q := q) (p := x) (by omega) (by omega) n.toNat
            have hpb := pr12 ⟨n.toNat, by omega⟩
            simp only at hpb
            refine v_lv (congrArg (fun x9 => ([(10, .int (iI (t))), (8, .long (lI (pr 12 t.toNat))), (6, .long (lI (pr (12 - x) t.toNat))), (4, .long (lI x9)), (0, .ref (a (0))), (1, .int (iI (q))), (2, .int (iI (n))), (3, .int (iI (x)))] : List (Nat × Value))) (show (od F q x t.toNat) = (od F q x n.toNat) by rw [htn])) ?_
            refine v_lv (congrArg (fun x9 => ([(10, .int (iI (t))), (8, .long (lI x9)), (6, .long (lI (pr (12 - x) t.toNat))), (4, .long (lI (od F q x n.toNat))), (0, .ref (a (0))), (1, .int (iI (q))), (2, .int (iI (n))), (3, .int (iI (x)))] : List (Nat × Value))) (show (pr 12 t.toNat) = (pr 12 n.toNat) by rw [htn])) ?_
            refine v_aload_n C 4 dX4_odds_123 rfl ?_
            refine v_lload C 3 dX4_odds_124 rfl ?_
            refine v_lload C 1 dX4_odds_126 rfl ?_
            refine v_cV_v C (As := [.long (lI (od F q x n.toNat)), .long (lI (pr 12 n.toNat))]) (rest := []) (c_X4_tellPart l D yc t1 t2 a A g (od F q x n.toNat) (pr 12 n.toNat) (by omega) (by omega)) (cwV 2 C.hts gX4_odds_X4_tellPart rfl rfl rfl (by decide +kernel) ⟨by decide, by decide⟩) (fun H hP => va_recv C.hK hP (ci := 4) (q0 := (0 : Int).toNat) rfl (wo_is (by omega) (by omega) ct_cow)) rfl rfl (Nat.le_of_ble_eq_true rfl) dX4_odds_128 ?_
            intro g9 h9
            rw [h9]
            clear h9 g9
            try dsimp only
            refine v_iconst C dX4_odds_131 ?_
            exact v_ret_i C rfl dX4_odds_132 ⟨(by repeat (first | rfl | rw [if_pos (by omega)] | rw [if_neg (by omega)])), (by repeat (first | rfl | rw [if_pos (by omega)] | rw [if_neg (by omega)]))⟩
          · skip
            refine v_lload C 3 dX4_odds_60 rfl ?_
            refine v_ldc2 (z := 12) C wk263 dX4_odds_62 (by decide) ?_
            refine v_lmul C dX4_odds_65 ?_
            refine v_lstore (lv' := [(4, .long (lI ((od F q x t.toNat) * 12))), (10, .int (iI (t))), (8, .long (lI (pr 12 t.toNat))), (6, .long (lI (pr (12 - x) t.toNat))), (0, .ref (a (0))), (1, .int (iI (q))), (2, .int (iI (n))), (3, .int (iI (x)))]) C dX4_odds_66 (by decide) rfl ?_
            refine v_aload_n C 4 dX4_odds_68 rfl ?_
            refine v_getf C (by omega) (by omega) ct_cow rfl 2 (by decide) wf21 hinX4 rfl dX4_odds_69 ?_
            refine v_st (st' := [.ref (a (26 + 0))]) rfl ?_
            refine v_aload_n C 4 dX4_odds_72 rfl ?_
            refine v_getf C (by omega) (by omega) ct_cow rfl 2 (by decide) wf21 hinX4 rfl dX4_odds_73 ?_
            refine v_st (st' := [.ref (a (26 + 0)), .ref (a (26 + 0))]) rfl ?_
            refine v_getf C (by omega) (by omega) (ct_farm (by omega) (by omega)) rfl 9 (by decide) wf158 hinX1 rfl dX4_odds_76 ?_
            refine v_st (st' := [.int (iI (F 3)), .ref (a (26 + 0))]) (by rw [HF.td]) ?_
            refine v_iload C 1 dX4_odds_79 rfl ?_
            refine v_iadd C dX4_odds_81 ?_
            refine v_cV_i C (As := [.int (iI ((F 3) + t))]) (rest := []) (c_X1_farmOn l D yc t1 t2 a A g 0 ((F 3) + t) F (by omega) HF HI (by omega) (by omega)) (cwV 1 C.hts gX4_odds_X1_farmOn rfl rfl rfl (by decide +kernel) ⟨by decide, by decide⟩) (fun H hP => va_recv C.hK hP (ci := 1) (q0 := (26 + 0 : Int).toNat) rfl (wo_is (by omega) (by omega) (ct_farm (by omega) (by omega)))) rfl rfl (Nat.le_of_ble_eq_true rfl) dX4_odds_82 ?_
            intro r9 g9 h9
            rw [h9.1, h9.2]
            clear h9 g9 r9
            try dsimp only
            have h01 := fOn01 HI (by omega) (F 3 + t)
            refine v_iload_n C 5 dX4_odds_85 rfl ?_
            refine v_icmp_ne (tgt := 99) C dX4_odds_86 (by decide) (by omega) (by omega) (fun c86 => ?_) (fun c86 => ?_)
            · skip
              refine v_lload C 3 dX4_odds_99 rfl ?_
              refine v_bipush C dX4_odds_101 (by decide) ?_
              refine v_iload_n C 7 dX4_odds_103 rfl ?_
              refine v_isub C dX4_odds_104 ?_
              refine v_i2l C dX4_odds_105 (by omega) ?_
              refine v_lmul C dX4_odds_106 ?_
              refine v_lstore (lv' := [(6, .long (lI ((pr (12 - x) t.toNat) * (12 - x)))), (4, .long (lI ((od F q x t.toNat) * 12))), (10, .int (iI (t))), (8, .long (lI (pr 12 t.toNat))), (0, .ref (a (0))), (1, .int (iI (q))), (2, .int (iI (n))), (3, .int (iI (x)))]) C dX4_odds_107 (by decide) rfl ?_
              refine v_lload C 3 dX4_odds_109 rfl ?_
              refine v_ldc2 (z := 12) C wk263 dX4_odds_111 (by decide) ?_
              refine v_lmul C dX4_odds_114 ?_
              refine v_lstore (lv' := [(8, .long (lI ((pr 12 t.toNat) * 12))), (6, .long (lI ((pr (12 - x) t.toNat) * (12 - x)))), (4, .long (lI ((od F q x t.toNat) * 12))), (10, .int (iI (t))), (0, .ref (a (0))), (1, .int (iI (q))), (2, .int (iI (n))), (3, .int (iI (x)))]) C dX4_odds_115 (by decide) rfl ?_
              refine v_iinc (z' := t + 1) (lv' := [(10, .int (iI (t + 1))), (8, .long (lI ((pr 12 t.toNat) * 12))), (6, .long (lI ((pr (12 - x) t.toNat) * (12 - x)))), (4, .long (lI ((od F q x t.toNat) * 12))), (0, .ref (a (0))), (1, .int (iI (q))), (2, .int (iI (n))), (3, .int (iI (x)))]) C 3 dX4_odds_117 rfl (by omega) (by decide) rfl ?_
              refine v_goto (tgt := 54) C dX4_odds_120 (by decide) ?_
              refine v_lv (congrArg (fun x9 => ([(10, .int (iI (t + 1))), (8, .long (lI x9)), (6, .long (lI ((pr (12 - x) t.toNat) * (12 - x)))), (4, .long (lI ((od F q x t.toNat) * 12))), (0, .ref (a (0))), (1, .int (iI (q))), (2, .int (iI (n))), (3, .int (iI (x)))] : List (Nat × Value))) (show ((pr 12 t.toNat) * 12) = (pr 12 (t + 1).toNat) by first | rfl | (rw [pr_s (by omega)]))) ?_
              refine v_lv (congrArg (fun x9 => ([(10, .int (iI (t + 1))), (8, .long (lI (pr 12 (t + 1).toNat))), (6, .long (lI x9)), (4, .long (lI ((od F q x t.toNat) * 12))), (0, .ref (a (0))), (1, .int (iI (q))), (2, .int (iI (n))), (3, .int (iI (x)))] : List (Nat × Value))) (show ((pr (12 - x) t.toNat) * (12 - x)) = (pr (12 - x) (t + 1).toNat) by first | rfl | (rw [pr_s (by omega)]))) ?_
              refine v_lv (congrArg (fun x9 => ([(10, .int (iI (t + 1))), (8, .long (lI (pr 12 (t + 1).toNat))), (6, .long (lI (pr (12 - x) (t + 1).toNat))), (4, .long (lI x9)), (0, .ref (a (0))), (1, .int (iI (q))), (2, .int (iI (n))), (3, .int (iI (x)))] : List (Nat × Value))) (show ((od F q x t.toNat) * 12) = (od F q x (t + 1).toNat) by first | rfl | (rw [od_s (by omega)]; first | rw [if_pos (by omega)] | rw [if_neg (by omega), Int.add_zero]))) ?_
              exact ih54 (t + 1) (by omega) (by omega)
            · skip
              refine v_lload C 0 dX4_odds_89 rfl ?_
              refine v_lload C 3 dX4_odds_91 rfl ?_
              refine v_iload_n C 7 dX4_odds_93 rfl ?_
              refine v_i2l C dX4_odds_94 (by omega) ?_
              refine v_lmul C dX4_odds_95 ?_
              refine v_ladd C dX4_odds_96 ?_
              refine v_lstore (lv' := [(4, .long (lI (((od F q x t.toNat) * 12) + ((pr (12 - x) t.toNat) * x)))), (10, .int (iI (t))), (8, .long (lI (pr 12 t.toNat))), (6, .long (lI (pr (12 - x) t.toNat))), (0, .ref (a (0))), (1, .int (iI (q))), (2, .int (iI (n))), (3, .int (iI (x)))]) C dX4_odds_97 (by decide) rfl ?_
              refine v_lload C 3 dX4_odds_99 rfl ?_
              refine v_bipush C dX4_odds_101 (by decide) ?_
              refine v_iload_n C 7 dX4_odds_103 rfl ?_
              refine v_isub C dX4_odds_104 ?_
              refine v_i2l C dX4_odds_105 (by omega) ?_
              refine v_lmul C dX4_odds_106 ?_
              refine v_lstore (lv' := [(6, .long (lI ((pr (12 - x) t.toNat) * (12 - x)))), (4, .long (lI (((od F q x t.toNat) * 12) + ((pr (12 - x) t.toNat) * x)))), (10, .int (iI (t))), (8, .long (lI (pr 12 t.toNat))), (0, .ref (a (0))), (1, .int (iI (q))), (2, .int (iI (n))), (3, .int (iI (x)))]) C dX4_odds_107 (by decide) rfl ?_
              refine v_lload C 3 dX4_odds_109 rfl ?_
              refine v_ldc2 (z := 12) C wk263 dX4_odds_111 (by decide) ?_
              refine v_lmul C dX4_odds_114 ?_
              refine v_lstore (lv' := [(8, .long (lI ((pr 12 t.toNat) * 12))), (6, .long (lI ((pr (12 - x) t.toNat) * (12 - x)))), (4, .long (lI (((od F q x t.toNat) * 12) + ((pr (12 - x) t.toNat) * x)))), (10, .int (iI (t))), (0, .ref (a (0))), (1, .int (iI (q))), (2, .int (iI (n))), (3, .int (iI (x)))]) C dX4_odds_115 (by decide) rfl ?_
              refine v_iinc (z' := t + 1) (lv' := [(10, .int (iI (t + 1))), (8, .long (lI ((pr 12 t.toNat) * 12))), (6, .long (lI ((pr (12 - x) t.toNat) * (12 - x)))), (4, .long (lI (((od F q x t.toNat) * 12) + ((pr (12 - x) t.toNat) * x)))), (0, .ref (a (0))), (1, .int (iI (q))), (2, .int (iI (n))), (3, .int (iI (x)))]) C 3 dX4_odds_117 rfl (by omega) (by decide) rfl ?_
              refine v_goto (tgt := 54) C dX4_odds_120 (by decide) ?_
              refine v_lv (congrArg (fun x9 => ([(10, .int (iI (t + 1))), (8, .long (lI x9)), (6, .long (lI ((pr (12 - x) t.toNat) * (12 - x)))), (4, .long (lI (((od F q x t.toNat) * 12) + ((pr (12 - x) t.toNat) * x)))), (0, .ref (a (0))), (1, .int (iI (q))), (2, .int (iI (n))), (3, .int (iI (x)))] : List (Nat × Value))) (show ((pr 12 t.toNat) * 12) = (pr 12 (t + 1).toNat) by first | rfl | (rw [pr_s (by omega)]))) ?_
              refine v_lv (congrArg (fun x9 => ([(10, .int (iI (t + 1))), (8, .long (lI (pr 12 (t + 1).toNat))), (6, .long (lI x9)), (4, .long (lI (((od F q x t.toNat) * 12) + ((pr (12 - x) t.toNat) * x)))), (0, .ref (a (0))), (1, .int (iI (q))), (2, .int (iI (n))), (3, .int (iI (x)))] : List (Nat × Value))) (show ((pr (12 - x) t.toNat) * (12 - x)) = (pr (12 - x) (t + 1).toNat) by first | rfl | (rw [pr_s (by omega)]))) ?_
              refine v_lv (congrArg (fun x9 => ([(10, .int (iI (t + 1))), (8, .long (lI (pr 12 (t + 1).toNat))), (6, .long (lI (pr (12 - x) (t + 1).toNat))), (4, .long (lI x9)), (0, .ref (a (0))), (1, .int (iI (q))), (2, .int (iI (n))), (3, .int (iI (x)))] : List (Nat × Value))) (show (((od F q x t.toNat) * 12) + ((pr (12 - x) t.toNat) * x)) = (od F q x (t + 1).toNat) by first | rfl | (rw [od_s (by omega)]; first | rw [if_pos (by omega)] | rw [if_neg (by omega), Int.add_zero]))) ?_
              exact ih54 (t + 1) (by omega) (by omega)
        · skip
          refine v_bipush C dX4_odds_39 (by decide) ?_
          exact v_ret_i C rfl dX4_odds_41 ⟨(by repeat (first | rfl | rw [if_pos (by omega)] | rw [if_neg (by omega)])), (by repeat (first | rfl | rw [if_pos (by omega)] | rw [if_neg (by omega)]))⟩
      · skip
        refine v_iconst C dX4_odds_27 ?_
        exact v_ret_i C rfl dX4_odds_28 ⟨(by repeat (first | rfl | rw [if_pos (by omega)] | rw [if_neg (by omega)])), (by repeat (first | rfl | rw [if_pos (by omega)] | rw [if_neg (by omega)]))⟩
