set_option maxRecDepth 100000 in
set_option maxHeartbeats 4000000 in
theorem c_X5_even (l : Launch) (D : va_G) (yc : Nat → ClassId) (t1 t2 : Nat) (a : Int → Nat) (A : Nat → Prop) (g : Mm)  (HI : FI (g 6)) : Ci l yX5_even wsX5_even { frames := 1, cells := 0, slots := 0, locals := 22 } D yc t1 t2 A (mw a yc) [.ref (a (0))] g (fun r9 g' => r9 = (iI (if g 6 0 = 0 then -4 else if evB (g 6) (pw (g 6 1)).toNat = -9 then -9 else sI (bt (evB (g 6) (pw (g 6 1)).toNat)) 24)) ∧ g' = (if g 6 0 = 0 then g else if evB (g 6) (pw (g 6 1)).toNat = -9 then g else mu g 0 11 (evB (g 6) (pw (g 6 1)).toNat))) := by
  refine start_i (cc := cX5_even) (nL := 6) (ret := (some .int)) (own := RX5) (by decide +kernel) rfl rfl (Nat.le_of_ble_eq_true rfl) ?_
  intro p e s m9 below meth c9 C
  have wf25 : Cond.fieldLink RX5 25 (TX5 5).1 (TX5 5).2.1 (TX5 5).2.2.1 ∈ wsX5_even := by decide +kernel
  have hinX5 : ∀ w ∈ u_ws RX5 TX5 17, w ∈ wsX5_even := by decide +kernel
  have hn := HI.n
  refine v_lv (lv' := [(0, .ref (a (0)))]) rfl ?_
  refine v_aload_n C 0 dX5_even_0 rfl ?_
  refine v_cV_i C (As := []) (rest := []) (c_X5_are l D yc t1 t2 a A g HI) (cwV 0 C.hts gX5_even_X5_are rfl rfl rfl (by decide +kernel) ⟨by decide, by decide⟩) (fun H hP => va_recv C.hK hP (ci := 5) (q0 := (0 : Int).toNat) rfl (wo_is (by omega) (by omega) ct_mod)) rfl rfl (Nat.le_of_ble_eq_true rfl) dX5_even_1 ?_
  intro r9 g9 h9
  rw [h9.1, h9.2]
  clear h9 g9 r9
  try dsimp only
  refine v_ifb_ne (tgt := 10) C dX5_even_4 (by decide) (fun c4 => ?_) (fun c4 => ?_)
  · skip
    have hp8 := pw_8 (n := g 6 1) (by omega) (by omega)
    refine v_bipush C dX5_even_10 (by decide) ?_
    refine v_istore_n (lv' := [(1, .int (iI (-9))), (0, .ref (a (0)))]) C dX5_even_12 (by decide) rfl ?_
    refine v_iconst C dX5_even_13 ?_
    refine v_istore_n (lv' := [(2, .int (iI (0))), (1, .int (iI (-9))), (0, .ref (a (0)))]) C dX5_even_14 (by decide) rfl ?_
    refine v_lv (congrArg (fun x9 => ([(2, .int (iI x9)), (1, .int (iI (-9))), (0, .ref (a (0)))] : List (Nat × Value))) (show (0) = (((0 : Int))) by first | rfl | omega | (simp; done))) ?_
    refine v_lv (congrArg (fun x9 => ([(2, .int (iI (((0 : Int))))), (1, .int (iI x9)), (0, .ref (a (0)))] : List (Nat × Value))) (show (-9) = (evB (g 6) ((0 : Int)).toNat) by first | rfl | omega | (simp; done))) ?_
    refine v_loop1 (fun (x : Int) => (pw (g 6 1) - x).toNat) (fun (x : Int) => 0 ≤ x ∧ x ≤ pw (g 6 1)) (fun (x : Int) => [(2, .int (iI (x))), (1, .int (iI (evB (g 6) x.toNat))), (0, .ref (a (0)))]) (fun (x : Int) => g) ?_ 0 (by omega)
    intro x hI15 ih15
    try dsimp only at ih15 ⊢
    refine v_iload_n C 0 dX5_even_15 rfl ?_
    refine v_iconst C dX5_even_16 ?_
    refine v_aload_n C 2 dX5_even_17 rfl ?_
    refine v_getf C (by omega) (by omega) ct_mod rfl 5 (by decide) wf25 hinX5 rfl dX5_even_18 ?_
    refine v_iconst C dX5_even_21 ?_
    refine v_iaload C (by omega) (by omega) ct_mnow (by omega) (by omega) (by decide) dX5_even_22 ?_
    refine v_ishl (z := (iI (pw (g 6 1)))) C dX5_even_23 (shl_1 (by omega) (by omega)) ?_
    refine v_icmp_ge (tgt := 140) C dX5_even_24 (by decide) (by omega) (by omega) (fun c24 => ?_) (fun c24 => ?_)
    · skip
      have hr := evB_r (g 6) x.toNat
      have hxx : x = pw (g 6 1) := by omega
      refine v_lv (congrArg (fun x9 => ([(2, .int (iI (x))), (1, .int (iI x9)), (0, .ref (a (0)))] : List (Nat × Value))) (show (evB (g 6) x.toNat) = (evB (g 6) (pw (g 6 1)).toNat) by rw [hxx])) ?_
      refine v_iload_n C 1 dX5_even_140 rfl ?_
      refine v_bipush C dX5_even_141 (by decide) ?_
      refine v_icmp_ne (tgt := 151) C dX5_even_143 (by decide) (by rw [hxx] at hr; omega) (by rw [hxx] at hr; omega) (fun c143 => ?_) (fun c143 => ?_)
      · skip
        refine v_aload_n C 2 dX5_even_151 rfl ?_
        refine v_iload_n C 1 dX5_even_152 rfl ?_
        refine v_cS_i C (As := [.int (iI (evB (g 6) (pw (g 6 1)).toNat))]) (rest := [.ref (a (0))]) (c_X5_ones l D yc t1 t2 A (mw a yc) g (evB (g 6) (pw (g 6 1)).toNat) (by rw [hxx] at hr; omega)) (va_cwS 1 C.hts gX5_even_X5_ones rfl rfl rfl (by decide +kernel) ⟨by decide, by decide⟩) rfl rfl (Nat.le_of_ble_eq_true rfl) dX5_even_153 ?_
        intro r9 g9 h9
        rw [h9.1, h9.2]
        clear h9 g9 r9
        try dsimp only
        refine v_iload_n C 1 dX5_even_156 rfl ?_
        refine v_cV_i C (As := [.int (iI (sI (bt (evB (g 6) (pw (g 6 1)).toNat)) 24)), .int (iI (evB (g 6) (pw (g 6 1)).toNat))]) (rest := []) (c_X5_tells l D yc t1 t2 a A g (sI (bt (evB (g 6) (pw (g 6 1)).toNat)) 24) (evB (g 6) (pw (g 6 1)).toNat)) (cwV 2 C.hts gX5_even_X5_tells rfl rfl rfl (by decide +kernel) ⟨by decide, by decide⟩) (fun H hP => va_recv C.hK hP (ci := 5) (q0 := (0 : Int).toNat) rfl (wo_is (by omega) (by omega) ct_mod)) rfl rfl (Nat.le_of_ble_eq_true rfl) dX5_even_157 ?_
        intro r9 g9 h9
        rw [h9.1, h9.2]
        clear h9 g9 r9
        try dsimp only
        exact v_ret_i C rfl dX5_even_160 ⟨(by repeat (first | rfl | rw [if_pos (by omega)] | rw [if_neg (by omega)])), (by repeat (first | rfl | rw [if_pos (by omega)] | rw [if_neg (by omega)]))⟩
      · skip
        refine v_bipush C dX5_even_146 (by decide) ?_
        refine v_goto (tgt := 160) C dX5_even_148 (by decide) ?_
        exact v_ret_i C rfl dX5_even_160 ⟨(by repeat (first | rfl | rw [if_pos (by omega)] | rw [if_neg (by omega)])), (by repeat (first | rfl | rw [if_pos (by omega)] | rw [if_neg (by omega)]))⟩
    · skip
      refine v_iconst C dX5_even_27 ?_
      refine v_istore_n (lv' := [(3, .int (iI (0))), (2, .int (iI (x))), (1, .int (iI (evB (g 6) x.toNat))), (0, .ref (a (0)))]) C dX5_even_28 (by decide) rfl ?_
      refine v_iconst C dX5_even_29 ?_
      refine v_istore (lv' := [(4, .int (iI (0))), (3, .int (iI (0))), (2, .int (iI (x))), (1, .int (iI (evB (g 6) x.toNat))), (0, .ref (a (0)))]) C dX5_even_30 (by decide) rfl ?_
      refine v_lv (congrArg (fun x9 => ([(4, .int (iI x9)), (3, .int (iI (0))), (2, .int (iI (x))), (1, .int (iI (evB (g 6) x.toNat))), (0, .ref (a (0)))] : List (Nat × Value))) (show (0) = (((0 : Int))) by first | rfl | omega | (simp; done))) ?_
      refine v_lv (congrArg (fun x9 => ([(4, .int (iI (((0 : Int))))), (3, .int (iI x9)), (2, .int (iI (x))), (1, .int (iI (evB (g 6) x.toNat))), (0, .ref (a (0)))] : List (Nat × Value))) (show (0) = (sI (evS (g 6) x) ((0 : Int))) by first | rfl | omega | (simp; done))) ?_
      refine v_loop1 (fun (t : Int) => (24 - t).toNat) (fun (t : Int) => 0 ≤ t ∧ t ≤ 24) (fun (t : Int) => [(4, .int (iI (t))), (3, .int (iI (sI (evS (g 6) x) t))), (2, .int (iI (x))), (1, .int (iI (evB (g 6) x.toNat))), (0, .ref (a (0)))]) (fun (t : Int) => g) ?_ 0 (by omega)
      intro t hI32 ih32
      try dsimp only at ih32 ⊢
      refine v_iload C 0 dX5_even_32 rfl ?_
      refine v_bipush C dX5_even_34 (by decide) ?_
      refine v_icmp_ge (tgt := 107) C dX5_even_36 (by decide) (by omega) (by omega) (fun c36 => ?_) (fun c36 => ?_)
      · skip
        have hsb := sI_bd (h := evS (g 6) x) (B := 9) (n := 24) (fun e _ _ => by have := mOn9 HI (by omega) e; unfold evS; split <;> omega) (by omega)
        have ho1 := ones_bd x
        have ho2 := ones_bd (evB (g 6) x.toNat)
        have hr := evB_r (g 6) x.toNat
        have htt : t = 24 := by omega
        refine v_cut1 133 (fun (v133 : Int) => v133 = evB (g 6) (x + 1).toNat) (fun (v133 : Int) => [(4, .int (iI (t))), (3, .int (iI (sI (evS (g 6) x) t))), (2, .int (iI (x))), (1, .int (iI (evB (g 6) x.toNat))), (0, .ref (a (0)))]) (fun (v133 : Int) => [.int (iI (v133))]) (fun (v133 : Int) => g) ?_ ?_
        · intro v133 hj133
          try dsimp only
          refine v_st (st' := [.int (iI (evB (g 6) (x + 1).toNat))]) (by rw [hj133]) ?_
          refine v_istore_n (lv' := [(1, .int (iI (evB (g 6) (x + 1).toNat))), (4, .int (iI (t))), (3, .int (iI (sI (evS (g 6) x) t))), (2, .int (iI (x))), (0, .ref (a (0)))]) C dX5_even_133 (by decide) rfl ?_
          refine v_iinc (z' := x + 1) (lv' := [(2, .int (iI (x + 1))), (1, .int (iI (evB (g 6) (x + 1).toNat))), (4, .int (iI (t))), (3, .int (iI (sI (evS (g 6) x) t))), (0, .ref (a (0)))]) C 3 dX5_even_134 rfl (by omega) (by decide) rfl ?_
          refine v_goto (tgt := 15) C dX5_even_137 (by decide) ?_
          refine v_sub (lv' := [(2, .int (iI (x + 1))), (1, .int (iI (evB (g 6) (x + 1).toNat))), (0, .ref (a (0)))]) [0, 1, 4] rfl ?_
          exact ih15 (x + 1) (by omega) (by omega)
        · intro jn133
          try dsimp only at jn133
          have hsb := sI_bd (h := evS (g 6) x) (B := 9) (n := 24) (fun e _ _ => by have := mOn9 HI (by omega) e; unfold evS; split <;> omega) (by omega)
          have ho1 := ones_bd x
          have ho2 := ones_bd (evB (g 6) x.toNat)
          have hr := evB_r (g 6) x.toNat
          have htt : t = 24 := by omega
          refine v_iload_n C 1 dX5_even_107 rfl ?_
          refine v_if_ne (tgt := 132) C dX5_even_108 (by decide) (by rw [htt]; omega) (fun c108 => ?_) (fun c108 => ?_)
          · skip
            refine v_iload_n C 3 dX5_even_132 rfl ?_
            exact jn133 (evB (g 6) x.toNat) (by rw [htt] at *; rw [evB_s (g 6) (t := x) (by omega)]; first | rw [if_pos (by omega)] | rw [if_neg (by omega)])
          · skip
            refine v_iload_n C 3 dX5_even_111 rfl ?_
            refine v_bipush C dX5_even_112 (by decide) ?_
            refine v_icmp_eq (tgt := 128) C dX5_even_114 (by decide) (by omega) (by omega) (fun c114 => ?_) (fun c114 => ?_)
            · skip
              refine v_iload_n C 2 dX5_even_128 rfl ?_
              refine v_goto (tgt := 133) C dX5_even_129 (by decide) ?_
              exact jn133 x (by rw [htt] at *; rw [evB_s (g 6) (t := x) (by omega)]; first | rw [if_pos (by omega)] | rw [if_neg (by omega)])
            · skip
              refine v_iload_n C 2 dX5_even_117 rfl ?_
              refine v_cS_i C (As := [.int (iI (x))]) (rest := []) (c_X5_ones l D yc t1 t2 A (mw a yc) g x (by omega)) (va_cwS 1 C.hts gX5_even_X5_ones rfl rfl rfl (by decide +kernel) ⟨by decide, by decide⟩) rfl rfl (Nat.le_of_ble_eq_true rfl) dX5_even_118 ?_
              intro r9 g9 h9
              rw [h9.1, h9.2]
              clear h9 g9 r9
              try dsimp only
              refine v_iload_n C 3 dX5_even_121 rfl ?_
              refine v_cS_i C (As := [.int (iI (evB (g 6) x.toNat))]) (rest := [.int (iI (sI (bt x) 24))]) (c_X5_ones l D yc t1 t2 A (mw a yc) g (evB (g 6) x.toNat) (by omega)) (va_cwS 1 C.hts gX5_even_X5_ones rfl rfl rfl (by decide +kernel) ⟨by decide, by decide⟩) rfl rfl (Nat.le_of_ble_eq_true rfl) dX5_even_122 ?_
              intro r9 g9 h9
              rw [h9.1, h9.2]
              clear h9 g9 r9
              try dsimp only
              refine v_icmp_ge (tgt := 132) C dX5_even_125 (by decide) (by omega) (by omega) (fun c125 => ?_) (fun c125 => ?_)
              · skip
                refine v_iload_n C 3 dX5_even_132 rfl ?_
                exact jn133 (evB (g 6) x.toNat) (by rw [htt] at *; rw [evB_s (g 6) (t := x) (by omega)]; first | rw [if_pos (by omega)] | rw [if_neg (by omega)])
              · skip
                refine v_iload_n C 2 dX5_even_128 rfl ?_
                refine v_goto (tgt := 133) C dX5_even_129 (by decide) ?_
                exact jn133 x (by rw [htt] at *; rw [evB_s (g 6) (t := x) (by omega)]; first | rw [if_pos (by omega)] | rw [if_neg (by omega)])
      · skip
        have hm := emd (d := t) (n := g 6 1) (by omega)
        have h01 := fOn01 HI (by omega) t
        have hb01 := bt01 x (t % g 6 1)
        refine v_cut1 75 (fun (v75 : Int) => v75 = if (fOn (g 6) t = 1 ↔ bt x (t % g 6 1) = 1) then 0 else 1) (fun (v75 : Int) => [(4, .int (iI (t))), (3, .int (iI (sI (evS (g 6) x) t))), (2, .int (iI (x))), (1, .int (iI (evB (g 6) x.toNat))), (0, .ref (a (0)))]) (fun (v75 : Int) => [.int (iI (v75))]) (fun (v75 : Int) => g) ?_ ?_
        · intro v75 hj75
          try dsimp only
          refine v_istore (lv' := [(5, .int (iI (v75))), (4, .int (iI (t))), (3, .int (iI (sI (evS (g 6) x) t))), (2, .int (iI (x))), (1, .int (iI (evB (g 6) x.toNat))), (0, .ref (a (0)))]) C dX5_even_75 (by decide) rfl ?_
          refine v_cut1 99 (fun (v99 : Int) => v99 = evS (g 6) x t) (fun (v99 : Int) => [(5, .int (iI (v75))), (4, .int (iI (t))), (3, .int (iI (sI (evS (g 6) x) t))), (2, .int (iI (x))), (1, .int (iI (evB (g 6) x.toNat))), (0, .ref (a (0)))]) (fun (v99 : Int) => [.int (iI (v99)), .int (iI (sI (evS (g 6) x) t))]) (fun (v99 : Int) => g) ?_ ?_
          · intro v99 hj99
            try dsimp only
            refine v_iadd C dX5_even_99 ?_
            refine v_st (st' := [.int (iI (sI (evS (g 6) x) (t + 1)))]) (by rw [sI_s _ (by omega), hj99]) ?_
            refine v_istore_n (lv' := [(3, .int (iI (sI (evS (g 6) x) (t + 1)))), (5, .int (iI (v75))), (4, .int (iI (t))), (2, .int (iI (x))), (1, .int (iI (evB (g 6) x.toNat))), (0, .ref (a (0)))]) C dX5_even_100 (by decide) rfl ?_
            refine v_iinc (z' := t + 1) (lv' := [(4, .int (iI (t + 1))), (3, .int (iI (sI (evS (g 6) x) (t + 1)))), (5, .int (iI (v75))), (2, .int (iI (x))), (1, .int (iI (evB (g 6) x.toNat))), (0, .ref (a (0)))]) C 2 dX5_even_101 rfl (by omega) (by decide) rfl ?_
            refine v_goto (tgt := 32) C dX5_even_104 (by decide) ?_
            refine v_sub (lv' := [(4, .int (iI (t + 1))), (3, .int (iI (sI (evS (g 6) x) (t + 1)))), (2, .int (iI (x))), (1, .int (iI (evB (g 6) x.toNat))), (0, .ref (a (0)))]) [0, 1, 3, 4, 5] rfl ?_
            exact ih32 (t + 1) (by omega) (by omega)
          · intro jn99
            try dsimp only at jn99
            refine v_iload_n C 2 dX5_even_77 rfl ?_
            refine v_iload C 0 dX5_even_78 rfl ?_
            refine v_if_eq (tgt := 92) C dX5_even_80 (by decide) (by rw [hj75]; split <;> omega) (fun c80 => ?_) (fun c80 => ?_)
            · skip
              refine v_aload_n C 5 dX5_even_92 rfl ?_
              refine v_iload C 1 dX5_even_93 rfl ?_
              refine v_cV_i C (As := [.int (iI (t))]) (rest := [.int (iI (sI (evS (g 6) x) t))]) (c_X5_milkOn l D yc t1 t2 a A g t HI (by omega) (by omega)) (cwV 1 C.hts gX5_even_X5_milkOn rfl rfl rfl (by decide +kernel) ⟨by decide, by decide⟩) (fun H hP => va_recv C.hK hP (ci := 5) (q0 := (0 : Int).toNat) rfl (wo_is (by omega) (by omega) ct_mod)) rfl rfl (Nat.le_of_ble_eq_true rfl) dX5_even_95 ?_
              intro r9 g9 h9
              rw [h9.1, h9.2]
              clear h9 g9 r9
              try dsimp only
              refine v_ineg C dX5_even_98 ?_
              exact jn99 (-(mOn (g 6) t)) (by unfold evS; first | exact (ev_cut hj75).1 c80 | exact (ev_cut hj75).2 c80)
            · skip
              refine v_aload_n C 5 dX5_even_83 rfl ?_
              refine v_iload C 1 dX5_even_84 rfl ?_
              refine v_cV_i C (As := [.int (iI (t))]) (rest := [.int (iI (sI (evS (g 6) x) t))]) (c_X5_milkOn l D yc t1 t2 a A g t HI (by omega) (by omega)) (cwV 1 C.hts gX5_even_X5_milkOn rfl rfl rfl (by decide +kernel) ⟨by decide, by decide⟩) (fun H hP => va_recv C.hK hP (ci := 5) (q0 := (0 : Int).toNat) rfl (wo_is (by omega) (by omega) ct_mod)) rfl rfl (Nat.le_of_ble_eq_true rfl) dX5_even_86 ?_
              intro r9 g9 h9
              rw [h9.1, h9.2]
              clear h9 g9 r9
              try dsimp only
              refine v_goto (tgt := 99) C dX5_even_89 (by decide) ?_
              exact jn99 (mOn (g 6) t) (by unfold evS; first | exact (ev_cut hj75).1 c80 | exact (ev_cut hj75).2 c80)
        · intro jn75
          try dsimp only at jn75
          have hm := emd (d := t) (n := g 6 1) (by omega)
          have h01 := fOn01 HI (by omega) t
          have hb01 := bt01 x (t % g 6 1)
          refine v_aload_n C 4 dX5_even_39 rfl ?_
          refine v_iload C 0 dX5_even_40 rfl ?_
          refine v_cV_i C (As := [.int (iI (t))]) (rest := []) (c_X5_farmOn l D yc t1 t2 a A g t HI (by omega) (by omega)) (cwV 1 C.hts gX5_even_X5_farmOn rfl rfl rfl (by decide +kernel) ⟨by decide, by decide⟩) (fun H hP => va_recv C.hK hP (ci := 5) (q0 := (0 : Int).toNat) rfl (wo_is (by omega) (by omega) ct_mod)) rfl rfl (Nat.le_of_ble_eq_true rfl) dX5_even_42 ?_
          intro r9 g9 h9
          rw [h9.1, h9.2]
          clear h9 g9 r9
          try dsimp only
          refine v_iconst C dX5_even_45 ?_
          refine v_icmp_ne (tgt := 53) C dX5_even_46 (by decide) (by omega) (by omega) (fun c46 => ?_) (fun c46 => ?_)
          · skip
            refine v_iconst C dX5_even_53 ?_
            refine v_iload_n C 2 dX5_even_54 rfl ?_
            refine v_iload C 0 dX5_even_55 rfl ?_
            refine v_aload_n C 4 dX5_even_57 rfl ?_
            refine v_getf C (by omega) (by omega) ct_mod rfl 5 (by decide) wf25 hinX5 rfl dX5_even_58 ?_
            refine v_iconst C dX5_even_61 ?_
            refine v_iaload C (by omega) (by omega) ct_mnow (by omega) (by omega) (by decide) dX5_even_62 ?_
            refine v_irem C dX5_even_63 (by omega) (by omega) (by omega) (by omega) ?_
            refine v_cS_i C (As := [.int (iI (x)), .int (iI (t % (g (6) (1))))]) (rest := [.int (iI (0))]) (c_X5_has l D yc t1 t2 A (mw a yc) g x (t % (g (6) (1))) (by omega) (by omega)) (va_cwS 2 C.hts gX5_even_X5_has rfl rfl rfl (by decide +kernel) ⟨by decide, by decide⟩) rfl rfl (Nat.le_of_ble_eq_true rfl) dX5_even_64 ?_
            intro r9 g9 h9
            rw [h9.1, h9.2]
            clear h9 g9 r9
            try dsimp only
            refine v_icb0_eq (tgt := 74) C dX5_even_67 (by decide) (fun c67 => ?_) (fun c67 => ?_)
            · skip
              refine v_iconst C dX5_even_74 ?_
              exact jn75 0 (by first | rw [if_pos (by omega)] | rw [if_neg (by omega)])
            · skip
              refine v_iconst C dX5_even_70 ?_
              refine v_goto (tgt := 75) C dX5_even_71 (by decide) ?_
              exact jn75 1 (by first | rw [if_pos (by omega)] | rw [if_neg (by omega)])
          · skip
            refine v_iconst C dX5_even_49 ?_
            refine v_goto (tgt := 54) C dX5_even_50 (by decide) ?_
            refine v_iload_n C 2 dX5_even_54 rfl ?_
            refine v_iload C 0 dX5_even_55 rfl ?_
            refine v_aload_n C 4 dX5_even_57 rfl ?_
            refine v_getf C (by omega) (by omega) ct_mod rfl 5 (by decide) wf25 hinX5 rfl dX5_even_58 ?_
            refine v_iconst C dX5_even_61 ?_
            refine v_iaload C (by omega) (by omega) ct_mnow (by omega) (by omega) (by decide) dX5_even_62 ?_
            refine v_irem C dX5_even_63 (by omega) (by omega) (by omega) (by omega) ?_
            refine v_cS_i C (As := [.int (iI (x)), .int (iI (t % (g (6) (1))))]) (rest := [.int (iI (1))]) (c_X5_has l D yc t1 t2 A (mw a yc) g x (t % (g (6) (1))) (by omega) (by omega)) (va_cwS 2 C.hts gX5_even_X5_has rfl rfl rfl (by decide +kernel) ⟨by decide, by decide⟩) rfl rfl (Nat.le_of_ble_eq_true rfl) dX5_even_64 ?_
            intro r9 g9 h9
            rw [h9.1, h9.2]
            clear h9 g9 r9
            try dsimp only
            refine v_icb1_eq (tgt := 74) C dX5_even_67 (by decide) (fun c67 => ?_) (fun c67 => ?_)
            · skip
              refine v_iconst C dX5_even_74 ?_
              exact jn75 0 (by first | rw [if_pos (by omega)] | rw [if_neg (by omega)])
            · skip
              refine v_iconst C dX5_even_70 ?_
              refine v_goto (tgt := 75) C dX5_even_71 (by decide) ?_
              exact jn75 1 (by first | rw [if_pos (by omega)] | rw [if_neg (by omega)])
  · skip
    refine v_bipush C dX5_even_7 (by decide) ?_
    exact v_ret_i C rfl dX5_even_9 ⟨(by repeat (first | rfl | rw [if_pos (by omega)] | rw [if_neg (by omega)])), (by repeat (first | rfl | rw [if_pos (by omega)] | rw [if_neg (by omega)]))⟩

set_option maxRecDepth 100000 in
set_option maxHeartbeats 4000000 in
theorem c_X5_ownedByOne (l : Launch) (D : va_G) (yc : Nat → ClassId) (t1 t2 : Nat) (a : Int → Nat) (A : Nat → Prop) (g : Mm)  (HI : FI (g 6)) : Ci l yX5_ownedByOne wsX5_ownedByOne { frames := 1, cells := 0, slots := 0, locals := 21 } D yc t1 t2 A (mw a yc) [.ref (a (0))] g (fun r9 g' => r9 = (iI (ow (g 6))) ∧ g' = g) := by
  refine start_i (cc := cX5_ownedByOne) (nL := 3) (ret := (some .int)) (own := RX5) (by decide +kernel) rfl rfl (Nat.le_of_ble_eq_true rfl) ?_
  intro p e s m9 below meth c9 C
  have wf25 : Cond.fieldLink RX5 25 (TX5 5).1 (TX5 5).2.1 (TX5 5).2.2.1 ∈ wsX5_ownedByOne := by decide +kernel
  have hinX5 : ∀ w ∈ u_ws RX5 TX5 17, w ∈ wsX5_ownedByOne := by decide +kernel
  have hn := HI.n
  refine v_lv (lv' := [(0, .ref (a (0)))]) rfl ?_
  refine v_iconst C dX5_ownedByOne_0 ?_
  refine v_istore_n (lv' := [(1, .int (iI (0))), (0, .ref (a (0)))]) C dX5_ownedByOne_1 (by decide) rfl ?_
  refine v_iconst C dX5_ownedByOne_2 ?_
  refine v_istore_n (lv' := [(2, .int (iI (0))), (1, .int (iI (0))), (0, .ref (a (0)))]) C dX5_ownedByOne_3 (by decide) rfl ?_
  refine v_lv (congrArg (fun x9 => ([(2, .int (iI x9)), (1, .int (iI (0))), (0, .ref (a (0)))] : List (Nat × Value))) (show (0) = (((0 : Int))) by first | rfl | omega | (simp; done))) ?_
  refine v_lv (congrArg (fun x9 => ([(2, .int (iI (((0 : Int))))), (1, .int (iI x9)), (0, .ref (a (0)))] : List (Nat × Value))) (show (0) = (so (g 6) 1 ((0 : Int))) by first | rfl | omega | (simp; done))) ?_
  refine v_loop1 (fun (t : Int) => (g 6 0 - t).toNat) (fun (t : Int) => 0 ≤ t ∧ t ≤ g 6 0) (fun (t : Int) => [(2, .int (iI (t))), (1, .int (iI (so (g 6) 1 t))), (0, .ref (a (0)))]) (fun (t : Int) => g) ?_ 0 (by omega)
  intro t hI4 ih4
  try dsimp only at ih4 ⊢
  refine v_iload_n C 0 dX5_ownedByOne_4 rfl ?_
  refine v_aload_n C 2 dX5_ownedByOne_5 rfl ?_
  refine v_getf C (by omega) (by omega) ct_mod rfl 5 (by decide) wf25 hinX5 rfl dX5_ownedByOne_6 ?_
  refine v_iconst C dX5_ownedByOne_9 ?_
  refine v_iaload C (by omega) (by omega) ct_mnow (by omega) (by omega) (by decide) dX5_ownedByOne_10 ?_
  refine v_icmp_ge (tgt := 30) C dX5_ownedByOne_11 (by decide) (by omega) (by omega) (fun c11 => ?_) (fun c11 => ?_)
  · skip
    refine v_iload_n C 1 dX5_ownedByOne_30 rfl ?_
    exact v_ret_i C rfl dX5_ownedByOne_31 ⟨(by rw [show t = g 6 0 by omega]), rfl⟩
  · skip
    have hb := HI.b (i := t) (by omega) (by omega)
    have hs := so_bd (g 6) 1 (n := t) (by omega)
    refine v_iload_n C 1 dX5_ownedByOne_14 rfl ?_
    refine v_aload_n C 2 dX5_ownedByOne_15 rfl ?_
    refine v_iload_n C 0 dX5_ownedByOne_16 rfl ?_
    refine v_cV_i C (As := [.int (iI (t))]) (rest := [.int (iI (so (g 6) 1 t))]) (c_X5_ownerOf l D yc t1 t2 a A g t (by omega)) (cwV 1 C.hts gX5_ownedByOne_X5_ownerOf rfl rfl rfl (by decide +kernel) ⟨by decide, by decide⟩) (fun H hP => va_recv C.hK hP (ci := 5) (q0 := (0 : Int).toNat) rfl (wo_is (by omega) (by omega) ct_mod)) rfl rfl (Nat.le_of_ble_eq_true rfl) dX5_ownedByOne_17 ?_
    intro r9 g9 h9
    rw [h9.1, h9.2]
    clear h9 g9 r9
    try dsimp only
    refine v_iload_n C 0 dX5_ownedByOne_20 rfl ?_
    refine v_ishl (z := (iI (if g 6 (20 + 3 * t + 2) = 1 then pw t else 0))) C dX5_ownedByOne_21 (shl_01 hb.2.2 (by omega) (by omega)) ?_
    refine v_ior (z := (iI (so (g 6) 1 (t + 1)))) C dX5_ownedByOne_22 (by rw [so_s _ _ (by omega)]; exact or_if hs.1 hs.2 (by omega)) ?_
    refine v_istore_n (lv' := [(1, .int (iI (so (g 6) 1 (t + 1)))), (2, .int (iI (t))), (0, .ref (a (0)))]) C dX5_ownedByOne_23 (by decide) rfl ?_
    refine v_iinc (z' := t + 1) (lv' := [(2, .int (iI (t + 1))), (1, .int (iI (so (g 6) 1 (t + 1)))), (0, .ref (a (0)))]) C 1 dX5_ownedByOne_24 rfl (by omega) (by decide) rfl ?_
    refine v_goto (tgt := 4) C dX5_ownedByOne_27 (by decide) ?_
    exact ih4 (t + 1) (by omega) (by omega)

set_option maxRecDepth 100000 in
set_option maxHeartbeats 4000000 in
theorem c_X5_valueBy (l : Launch) (D : va_G) (yc : Nat → ClassId) (t1 t2 : Nat) (a : Int → Nat) (A : Nat → Prop) (g : Mm) (se b q : Int) (HI : FI (g 6)) (hs : 0 ≤ se ∧ se < 1000000) (hb : 0 ≤ b ∧ b ≤ 1) (hq : 0 ≤ q ∧ q ≤ 1) : Ci l yX5_valueBy wsX5_valueBy { frames := 2, cells := 0, slots := 0, locals := 44 } D yc t1 t2 A (mw a yc) [.ref (a (0)), .int (iI (se)), .int (iI (b)), .int (iI (q))] g (fun r9 g' => r9 = (iI (VB (g 6) se b q)) ∧ g' = g) := by
  refine start_i (cc := cX5_valueBy) (nL := 6) (ret := (some .int)) (own := RX5) (by decide +kernel) rfl rfl (Nat.le_of_ble_eq_true rfl) ?_
  intro p e s m9 below meth c9 C
  have wf25 : Cond.fieldLink RX5 25 (TX5 5).1 (TX5 5).2.1 (TX5 5).2.2.1 ∈ wsX5_valueBy := by decide +kernel
  have hinX5 : ∀ w ∈ u_ws RX5 TX5 17, w ∈ wsX5_valueBy := by decide +kernel
  have hn := HI.n
  refine v_lv (lv' := [(0, .ref (a (0))), (1, .int (iI (se))), (2, .int (iI (b))), (3, .int (iI (q)))]) rfl ?_
  refine v_iconst C dX5_valueBy_0 ?_
  refine v_istore (lv' := [(4, .int (iI (0))), (0, .ref (a (0))), (1, .int (iI (se))), (2, .int (iI (b))), (3, .int (iI (q)))]) C dX5_valueBy_1 (by decide) rfl ?_
  refine v_iconst C dX5_valueBy_3 ?_
  refine v_istore (lv' := [(5, .int (iI (0))), (4, .int (iI (0))), (0, .ref (a (0))), (1, .int (iI (se))), (2, .int (iI (b))), (3, .int (iI (q)))]) C dX5_valueBy_4 (by decide) rfl ?_
  refine v_lv (congrArg (fun x9 => ([(5, .int (iI x9)), (4, .int (iI (0))), (0, .ref (a (0))), (1, .int (iI (se))), (2, .int (iI (b))), (3, .int (iI (q)))] : List (Nat × Value))) (show (0) = (((0 : Int))) by first | rfl | omega | (simp; done))) ?_
  refine v_lv (congrArg (fun x9 => ([(5, .int (iI (((0 : Int))))), (4, .int (iI x9)), (0, .ref (a (0))), (1, .int (iI (se))), (2, .int (iI (b))), (3, .int (iI (q)))] : List (Nat × Value))) (show (0) = (sI (fun i => if bt se i = b then vT (g 6) i q else 0) ((0 : Int))) by first | rfl | omega | (simp; done))) ?_
  refine v_loop1 (fun (t : Int) => (g 6 0 - t).toNat) (fun (t : Int) => 0 ≤ t ∧ t ≤ g 6 0) (fun (t : Int) => [(5, .int (iI (t))), (4, .int (iI (sI (fun i => if bt se i = b then vT (g 6) i q else 0) t))), (0, .ref (a (0))), (1, .int (iI (se))), (2, .int (iI (b))), (3, .int (iI (q)))]) (fun (t : Int) => g) ?_ 0 (by omega)
  intro t hI6 ih6
  try dsimp only at ih6 ⊢
  refine v_iload C 0 dX5_valueBy_6 rfl ?_
  refine v_aload_n C 2 dX5_valueBy_8 rfl ?_
  refine v_getf C (by omega) (by omega) ct_mod rfl 5 (by decide) wf25 hinX5 rfl dX5_valueBy_9 ?_
  refine v_iconst C dX5_valueBy_12 ?_
  refine v_iaload C (by omega) (by omega) ct_mnow (by omega) (by omega) (by decide) dX5_valueBy_13 ?_
  refine v_icmp_ge (tgt := 58) C dX5_valueBy_14 (by decide) (by omega) (by omega) (fun c14 => ?_) (fun c14 => ?_)
  · skip
    refine v_iload C 1 dX5_valueBy_58 rfl ?_
    exact v_ret_i C rfl dX5_valueBy_60 ⟨(by rw [show t = g 6 0 by omega]; rfl), rfl⟩
  · skip
    have hb9 := HI.b (i := t) (by omega) (by omega)
    have hb01 := bt01 se t
    refine v_iload C 1 dX5_valueBy_17 rfl ?_
    refine v_iload_n C 3 dX5_valueBy_19 rfl ?_
    refine v_iload C 0 dX5_valueBy_20 rfl ?_
    refine v_cS_i C (As := [.int (iI (se)), .int (iI (t))]) (rest := [.int (iI (sI (fun i => if bt se i = b then vT (g 6) i q else 0) t))]) (c_X5_has l D yc t1 t2 A (mw a yc) g se t (by omega) (by omega)) (va_cwS 2 C.hts gX5_valueBy_X5_has rfl rfl rfl (by decide +kernel) ⟨by decide, by decide⟩) rfl rfl (Nat.le_of_ble_eq_true rfl) dX5_valueBy_22 ?_
    intro r9 g9 h9
    rw [h9.1, h9.2]
    clear h9 g9 r9
    try dsimp only
    refine v_iload_n C 4 dX5_valueBy_25 rfl ?_
    refine v_iconst C dX5_valueBy_26 ?_
    refine v_icmp_ne (tgt := 34) C dX5_valueBy_27 (by decide) (by omega) (by omega) (fun c27 => ?_) (fun c27 => ?_)
    · skip
      refine v_iconst C dX5_valueBy_34 ?_
      refine v_ic0b_ne (tgt := 48) C dX5_valueBy_35 (by decide) (fun c35 => ?_) (fun c35 => ?_)
      · skip
        refine v_iconst C dX5_valueBy_48 ?_
        refine v_iadd C dX5_valueBy_49 ?_
        refine v_istore (lv' := [(4, .int (iI ((sI (fun i => if bt se i = b then vT (g 6) i q else 0) t) + 0))), (5, .int (iI (t))), (0, .ref (a (0))), (1, .int (iI (se))), (2, .int (iI (b))), (3, .int (iI (q)))]) C dX5_valueBy_50 (by decide) rfl ?_
        refine v_iinc (z' := t + 1) (lv' := [(5, .int (iI (t + 1))), (4, .int (iI ((sI (fun i => if bt se i = b then vT (g 6) i q else 0) t) + 0))), (0, .ref (a (0))), (1, .int (iI (se))), (2, .int (iI (b))), (3, .int (iI (q)))]) C 1 dX5_valueBy_52 rfl (by omega) (by decide) rfl ?_
        refine v_goto (tgt := 6) C dX5_valueBy_55 (by decide) ?_
        refine v_lv (congrArg (fun x9 => ([(5, .int (iI (t + 1))), (4, .int (iI x9)), (0, .ref (a (0))), (1, .int (iI (se))), (2, .int (iI (b))), (3, .int (iI (q)))] : List (Nat × Value))) (show ((sI (fun i => if bt se i = b then vT (g 6) i q else 0) t) + 0) = (sI (fun i => if bt se i = b then vT (g 6) i q else 0) (t + 1)) by first | rfl | (rw [sI_s _ (by omega)]; first | rw [if_pos (by omega)] | rw [if_neg (by omega)]))) ?_
        exact ih6 (t + 1) (by omega) (by omega)
      · skip
        refine v_aload_n C 2 dX5_valueBy_38 rfl ?_
        refine v_iload C 0 dX5_valueBy_39 rfl ?_
        refine v_iload_n C 5 dX5_valueBy_41 rfl ?_
        refine v_cV_i C (As := [.int (iI (t)), .int (iI (q))]) (rest := [.int (iI (sI (fun i => if bt se i = b then vT (g 6) i q else 0) t))]) (c_X5_valueTo l D yc t1 t2 a A g t q (by omega) (by omega) (by omega)) (cwV 2 C.hts gX5_valueBy_X5_valueTo rfl rfl rfl (by decide +kernel) ⟨by decide, by decide⟩) (fun H hP => va_recv C.hK hP (ci := 5) (q0 := (0 : Int).toNat) rfl (wo_is (by omega) (by omega) ct_mod)) rfl rfl (Nat.le_of_ble_eq_true rfl) dX5_valueBy_42 ?_
        intro r9 g9 h9
        rw [h9.1, h9.2]
        clear h9 g9 r9
        try dsimp only
        refine v_goto (tgt := 49) C dX5_valueBy_45 (by decide) ?_
        refine v_iadd C dX5_valueBy_49 ?_
        refine v_istore (lv' := [(4, .int (iI ((sI (fun i => if bt se i = b then vT (g 6) i q else 0) t) + (vT (g 6) t q)))), (5, .int (iI (t))), (0, .ref (a (0))), (1, .int (iI (se))), (2, .int (iI (b))), (3, .int (iI (q)))]) C dX5_valueBy_50 (by decide) rfl ?_
        refine v_iinc (z' := t + 1) (lv' := [(5, .int (iI (t + 1))), (4, .int (iI ((sI (fun i => if bt se i = b then vT (g 6) i q else 0) t) + (vT (g 6) t q)))), (0, .ref (a (0))), (1, .int (iI (se))), (2, .int (iI (b))), (3, .int (iI (q)))]) C 1 dX5_valueBy_52 rfl (by omega) (by decide) rfl ?_
        refine v_goto (tgt := 6) C dX5_valueBy_55 (by decide) ?_
        refine v_lv (congrArg (fun x9 => ([(5, .int (iI (t + 1))), (4, .int (iI x9)), (0, .ref (a (0))), (1, .int (iI (se))), (2, .int (iI (b))), (3, .int (iI (q)))] : List (Nat × Value))) (show ((sI (fun i => if bt se i = b then vT (g 6) i q else 0) t) + (vT (g 6) t q)) = (sI (fun i => if bt se i = b then vT (g 6) i q else 0) (t + 1)) by first | rfl | (rw [sI_s _ (by omega)]; first | rw [if_pos (by omega)] | rw [if_neg (by omega)]))) ?_
        exact ih6 (t + 1) (by omega) (by omega)
    · skip
      refine v_iconst C dX5_valueBy_30 ?_
      refine v_goto (tgt := 35) C dX5_valueBy_31 (by decide) ?_
      refine v_ic1b_ne (tgt := 48) C dX5_valueBy_35 (by decide) (fun c35 => ?_) (fun c35 => ?_)
      · skip
        refine v_iconst C dX5_valueBy_48 ?_
        refine v_iadd C dX5_valueBy_49 ?_
        refine v_istore (lv' := [(4, .int (iI ((sI (fun i => if bt se i = b then vT (g 6) i q else 0) t) + 0))), (5, .int (iI (t))), (0, .ref (a (0))), (1, .int (iI (se))), (2, .int (iI (b))), (3, .int (iI (q)))]) C dX5_valueBy_50 (by decide) rfl ?_
        refine v_iinc (z' := t + 1) (lv' := [(5, .int (iI (t + 1))), (4, .int (iI ((sI (fun i => if bt se i = b then vT (g 6) i q else 0) t) + 0))), (0, .ref (a (0))), (1, .int (iI (se))), (2, .int (iI (b))), (3, .int (iI (q)))]) C 1 dX5_valueBy_52 rfl (by omega) (by decide) rfl ?_
        refine v_goto (tgt := 6) C dX5_valueBy_55 (by decide) ?_
        refine v_lv (congrArg (fun x9 => ([(5, .int (iI (t + 1))), (4, .int (iI x9)), (0, .ref (a (0))), (1, .int (iI (se))), (2, .int (iI (b))), (3, .int (iI (q)))] : List (Nat × Value))) (show ((sI (fun i => if bt se i = b then vT (g 6) i q else 0) t) + 0) = (sI (fun i => if bt se i = b then vT (g 6) i q else 0) (t + 1)) by first | rfl | (rw [sI_s _ (by omega)]; first | rw [if_pos (by omega)] | rw [if_neg (by omega)]))) ?_
        exact ih6 (t + 1) (by omega) (by omega)
      · skip
        refine v_aload_n C 2 dX5_valueBy_38 rfl ?_
        refine v_iload C 0 dX5_valueBy_39 rfl ?_
        refine v_iload_n C 5 dX5_valueBy_41 rfl ?_
        refine v_cV_i C (As := [.int (iI (t)), .int (iI (q))]) (rest := [.int (iI (sI (fun i => if bt se i = b then vT (g 6) i q else 0) t))]) (c_X5_valueTo l D yc t1 t2 a A g t q (by omega) (by omega) (by omega)) (cwV 2 C.hts gX5_valueBy_X5_valueTo rfl rfl rfl (by decide +kernel) ⟨by decide, by decide⟩) (fun H hP => va_recv C.hK hP (ci := 5) (q0 := (0 : Int).toNat) rfl (wo_is (by omega) (by omega) ct_mod)) rfl rfl (Nat.le_of_ble_eq_true rfl) dX5_valueBy_42 ?_
        intro r9 g9 h9
        rw [h9.1, h9.2]
        clear h9 g9 r9
        try dsimp only
        refine v_goto (tgt := 49) C dX5_valueBy_45 (by decide) ?_
        refine v_iadd C dX5_valueBy_49 ?_
        refine v_istore (lv' := [(4, .int (iI ((sI (fun i => if bt se i = b then vT (g 6) i q else 0) t) + (vT (g 6) t q)))), (5, .int (iI (t))), (0, .ref (a (0))), (1, .int (iI (se))), (2, .int (iI (b))), (3, .int (iI (q)))]) C dX5_valueBy_50 (by decide) rfl ?_
        refine v_iinc (z' := t + 1) (lv' := [(5, .int (iI (t + 1))), (4, .int (iI ((sI (fun i => if bt se i = b then vT (g 6) i q else 0) t) + (vT (g 6) t q)))), (0, .ref (a (0))), (1, .int (iI (se))), (2, .int (iI (b))), (3, .int (iI (q)))]) C 1 dX5_valueBy_52 rfl (by omega) (by decide) rfl ?_
        refine v_goto (tgt := 6) C dX5_valueBy_55 (by decide) ?_
        refine v_lv (congrArg (fun x9 => ([(5, .int (iI (t + 1))), (4, .int (iI x9)), (0, .ref (a (0))), (1, .int (iI (se))), (2, .int (iI (b))), (3, .int (iI (q)))] : List (Nat × Value))) (show ((sI (fun i => if bt se i = b then vT (g 6) i q else 0) t) + (vT (g 6) t q)) = (sI (fun i => if bt se i = b then vT (g 6) i q else 0) (t + 1)) by first | rfl | (rw [sI_s _ (by omega)]; first | rw [if_pos (by omega)] | rw [if_neg (by omega)]))) ?_
        exact ih6 (t + 1) (by omega) (by omega)

set_option maxRecDepth 100000 in
set_option maxHeartbeats 4000000 in
theorem c_X5_value (l : Launch) (D : va_G) (yc : Nat → ClassId) (t1 t2 : Nat) (a : Int → Nat) (A : Nat → Prop) (g : Mm) (b q : Int) (hb : R32 b) (hq : R32 q) (HI : FI (g 6)) : Ci l yX5_value wsX5_value { frames := 3, cells := 0, slots := 0, locals := 69 } D yc t1 t2 A (mw a yc) [.ref (a (0)), .int (iI (b)), .int (iI (q))] g (fun r9 g' => r9 = (iI (if (b < 0 ∨ 1 < b) ∨ (q < 0 ∨ 1 < q) then -1 else VB (g 6) (ow (g 6)) b q)) ∧ g' = g) := by
  refine start_i (cc := cX5_value) (nL := 3) (ret := (some .int)) (own := RX5) (by decide +kernel) rfl rfl (Nat.le_of_ble_eq_true rfl) ?_
  intro p e s m9 below meth c9 C
  have hn := HI.n
  have ho := ow_bd HI
  refine v_lv (lv' := [(0, .ref (a (0))), (1, .int (iI (b))), (2, .int (iI (q)))]) rfl ?_
  refine v_iload_n C 1 dX5_value_0 rfl ?_
  refine v_iconst C dX5_value_1 ?_
  refine v_iconst C dX5_value_2 ?_
  refine v_cS_i C (As := [.int (iI (b)), .int (iI (0)), .int (iI (1))]) (rest := []) (c_X5_in l D yc t1 t2 A (mw a yc) g b 0 1 (by omega) (by omega) (by omega)) (va_cwS 3 C.hts gX5_value_X5_in rfl rfl rfl (by decide +kernel) ⟨by decide, by decide⟩) rfl rfl (Nat.le_of_ble_eq_true rfl) dX5_value_3 ?_
  intro r9 g9 h9
  rw [h9.1, h9.2]
  clear h9 g9 r9
  try dsimp only
  refine v_ifb_eq (tgt := 31) C dX5_value_6 (by decide) (fun c6 => ?_) (fun c6 => ?_)
  · skip
    refine v_iconst C dX5_value_31 ?_
    exact v_ret_i C rfl dX5_value_32 ⟨(by repeat (first | rfl | rw [if_pos (by omega)] | rw [if_neg (by omega)])), rfl⟩
  · skip
    refine v_iload_n C 2 dX5_value_9 rfl ?_
    refine v_iconst C dX5_value_10 ?_
    refine v_iconst C dX5_value_11 ?_
    refine v_cS_i C (As := [.int (iI (q)), .int (iI (0)), .int (iI (1))]) (rest := []) (c_X5_in l D yc t1 t2 A (mw a yc) g q 0 1 (by omega) (by omega) (by omega)) (va_cwS 3 C.hts gX5_value_X5_in rfl rfl rfl (by decide +kernel) ⟨by decide, by decide⟩) rfl rfl (Nat.le_of_ble_eq_true rfl) dX5_value_12 ?_
    intro r9 g9 h9
    rw [h9.1, h9.2]
    clear h9 g9 r9
    try dsimp only
    refine v_ifb_eq (tgt := 31) C dX5_value_15 (by decide) (fun c15 => ?_) (fun c15 => ?_)
    · skip
      refine v_iconst C dX5_value_31 ?_
      exact v_ret_i C rfl dX5_value_32 ⟨(by repeat (first | rfl | rw [if_pos (by omega)] | rw [if_neg (by omega)])), rfl⟩
    · skip
      refine v_aload_n C 0 dX5_value_18 rfl ?_
      refine v_aload_n C 0 dX5_value_19 rfl ?_
      refine v_cV_i C (As := []) (rest := [.ref (a (0))]) (c_X5_ownedByOne l D yc t1 t2 a A g HI) (cwV 0 C.hts gX5_value_X5_ownedByOne rfl rfl rfl (by decide +kernel) ⟨by decide, by decide⟩) (fun H hP => va_recv C.hK hP (ci := 5) (q0 := (0 : Int).toNat) rfl (wo_is (by omega) (by omega) ct_mod)) rfl rfl (Nat.le_of_ble_eq_true rfl) dX5_value_20 ?_
      intro r9 g9 h9
      rw [h9.1, h9.2]
      clear h9 g9 r9
      try dsimp only
      refine v_iload_n C 1 dX5_value_23 rfl ?_
      refine v_iload_n C 2 dX5_value_24 rfl ?_
      refine v_cV_i C (As := [.int (iI (ow (g 6))), .int (iI (b)), .int (iI (q))]) (rest := []) (c_X5_valueBy l D yc t1 t2 a A g (ow (g 6)) b q HI (by omega) (by omega) (by omega)) (cwV 3 C.hts gX5_value_X5_valueBy rfl rfl rfl (by decide +kernel) ⟨by decide, by decide⟩) (fun H hP => va_recv C.hK hP (ci := 5) (q0 := (0 : Int).toNat) rfl (wo_is (by omega) (by omega) ct_mod)) rfl rfl (Nat.le_of_ble_eq_true rfl) dX5_value_25 ?_
      intro r9 g9 h9
      rw [h9.1, h9.2]
      clear h9 g9 r9
      try dsimp only
      refine v_goto (tgt := 32) C dX5_value_28 (by decide) ?_
      exact v_ret_i C rfl dX5_value_32 ⟨(by repeat (first | rfl | rw [if_pos (by omega)] | rw [if_neg (by omega)])), rfl⟩

set_option maxRecDepth 100000 in
set_option maxHeartbeats 4000000 in
theorem c_X5_isFair (l : Launch) (D : va_G) (yc : Nat → ClassId) (t1 t2 : Nat) (a : Int → Nat) (A : Nat → Prop) (g : Mm) (se pd : Int) (HI : FI (g 6)) (hs : 0 ≤ se ∧ se < 1000000) (hp : -100000 ≤ pd ∧ pd ≤ 100000) : Ci l yX5_isFair wsX5_isFair { frames := 3, cells := 0, slots := 0, locals := 69 } D yc t1 t2 A (mw a yc) [.ref (a (0)), .int (iI (se)), .int (iI (pd))] g (fun r9 g' => r9 = (bI (VB (g 6) se 1 0 - pd ≤ VB (g 6) se 0 0 + pd ∧ VB (g 6) se 0 1 + pd ≤ VB (g 6) se 1 1 - pd)) ∧ g' = g) := by
  refine start_i (cc := cX5_isFair) (nL := 3) (ret := (some .boolean)) (own := RX5) (by decide +kernel) rfl rfl (Nat.le_of_ble_eq_true rfl) ?_
  intro p e s m9 below meth c9 C
  have b00 := VB_bd HI se 0 (q := 0) (by omega)
  have b10 := VB_bd HI se 1 (q := 0) (by omega)
  have b01 := VB_bd HI se 0 (q := 1) (by omega)
  have b11 := VB_bd HI se 1 (q := 1) (by omega)
  refine v_lv (lv' := [(0, .ref (a (0))), (1, .int (iI (se))), (2, .int (iI (pd)))]) rfl ?_
  refine v_aload_n C 0 dX5_isFair_0 rfl ?_
  refine v_iload_n C 1 dX5_isFair_1 rfl ?_
  refine v_iconst C dX5_isFair_2 ?_
  refine v_iconst C dX5_isFair_3 ?_
  refine v_cV_i C (As := [.int (iI (se)), .int (iI (0)), .int (iI (0))]) (rest := []) (c_X5_valueBy l D yc t1 t2 a A g se 0 0 HI (by omega) (by omega) (by omega)) (cwV 3 C.hts gX5_isFair_X5_valueBy rfl rfl rfl (by decide +kernel) ⟨by decide, by decide⟩) (fun H hP => va_recv C.hK hP (ci := 5) (q0 := (0 : Int).toNat) rfl (wo_is (by omega) (by omega) ct_mod)) rfl rfl (Nat.le_of_ble_eq_true rfl) dX5_isFair_4 ?_
  intro r9 g9 h9
  rw [h9.1, h9.2]
  clear h9 g9 r9
  try dsimp only
  refine v_iload_n C 2 dX5_isFair_7 rfl ?_
  refine v_iadd C dX5_isFair_8 ?_
  refine v_aload_n C 0 dX5_isFair_9 rfl ?_
  refine v_iload_n C 1 dX5_isFair_10 rfl ?_
  refine v_iconst C dX5_isFair_11 ?_
  refine v_iconst C dX5_isFair_12 ?_
  refine v_cV_i C (As := [.int (iI (se)), .int (iI (1)), .int (iI (0))]) (rest := [.int (iI ((VB (g 6) se 0 0) + pd))]) (c_X5_valueBy l D yc t1 t2 a A g se 1 0 HI (by omega) (by omega) (by omega)) (cwV 3 C.hts gX5_isFair_X5_valueBy rfl rfl rfl (by decide +kernel) ⟨by decide, by decide⟩) (fun H hP => va_recv C.hK hP (ci := 5) (q0 := (0 : Int).toNat) rfl (wo_is (by omega) (by omega) ct_mod)) rfl rfl (Nat.le_of_ble_eq_true rfl) dX5_isFair_13 ?_
  intro r9 g9 h9
  rw [h9.1, h9.2]
  clear h9 g9 r9
  try dsimp only
  refine v_iload_n C 2 dX5_isFair_16 rfl ?_
  refine v_isub C dX5_isFair_17 ?_
  refine v_icmp_lt (tgt := 46) C dX5_isFair_18 (by decide) (by omega) (by omega) (fun c18 => ?_) (fun c18 => ?_)
  · skip
    refine v_iconst C dX5_isFair_46 ?_
    exact v_ret_z C rfl (Or.inl rfl) dX5_isFair_47 ⟨(bI_f (by omega)), rfl⟩
  · skip
    refine v_aload_n C 0 dX5_isFair_21 rfl ?_
    refine v_iload_n C 1 dX5_isFair_22 rfl ?_
    refine v_iconst C dX5_isFair_23 ?_
    refine v_iconst C dX5_isFair_24 ?_
    refine v_cV_i C (As := [.int (iI (se)), .int (iI (1)), .int (iI (1))]) (rest := []) (c_X5_valueBy l D yc t1 t2 a A g se 1 1 HI (by omega) (by omega) (by omega)) (cwV 3 C.hts gX5_isFair_X5_valueBy rfl rfl rfl (by decide +kernel) ⟨by decide, by decide⟩) (fun H hP => va_recv C.hK hP (ci := 5) (q0 := (0 : Int).toNat) rfl (wo_is (by omega) (by omega) ct_mod)) rfl rfl (Nat.le_of_ble_eq_true rfl) dX5_isFair_25 ?_
    intro r9 g9 h9
    rw [h9.1, h9.2]
    clear h9 g9 r9
    try dsimp only
    refine v_iload_n C 2 dX5_isFair_28 rfl ?_
    refine v_isub C dX5_isFair_29 ?_
    refine v_aload_n C 0 dX5_isFair_30 rfl ?_
    refine v_iload_n C 1 dX5_isFair_31 rfl ?_
    refine v_iconst C dX5_isFair_32 ?_
    refine v_iconst C dX5_isFair_33 ?_
    refine v_cV_i C (As := [.int (iI (se)), .int (iI (0)), .int (iI (1))]) (rest := [.int (iI ((VB (g 6) se 1 1) - pd))]) (c_X5_valueBy l D yc t1 t2 a A g se 0 1 HI (by omega) (by omega) (by omega)) (cwV 3 C.hts gX5_isFair_X5_valueBy rfl rfl rfl (by decide +kernel) ⟨by decide, by decide⟩) (fun H hP => va_recv C.hK hP (ci := 5) (q0 := (0 : Int).toNat) rfl (wo_is (by omega) (by omega) ct_mod)) rfl rfl (Nat.le_of_ble_eq_true rfl) dX5_isFair_34 ?_
    intro r9 g9 h9
    rw [h9.1, h9.2]
    clear h9 g9 r9
    try dsimp only
    refine v_iload_n C 2 dX5_isFair_37 rfl ?_
    refine v_iadd C dX5_isFair_38 ?_
    refine v_icmp_lt (tgt := 46) C dX5_isFair_39 (by decide) (by omega) (by omega) (fun c39 => ?_) (fun c39 => ?_)
    · skip
      refine v_iconst C dX5_isFair_46 ?_
      exact v_ret_z C rfl (Or.inl rfl) dX5_isFair_47 ⟨(bI_f (by omega)), rfl⟩
    · skip
      refine v_iconst C dX5_isFair_42 ?_
      refine v_goto (tgt := 47) C dX5_isFair_43 (by decide) ?_
      exact v_ret_z C rfl (Or.inr rfl) dX5_isFair_47 ⟨(bI_t (by omega)), rfl⟩

set_option maxRecDepth 100000 in
set_option maxHeartbeats 4000000 in
theorem c_X5_fair (l : Launch) (D : va_G) (yc : Nat → ClassId) (t1 t2 : Nat) (a : Int → Nat) (A : Nat → Prop) (g : Mm)  (HI : FI (g 6)) : Ci l yX5_fair wsX5_fair { frames := 4, cells := 0, slots := 0, locals := 91 } D yc t1 t2 A (mw a yc) [.ref (a (0))] g (fun r9 g' => r9 = (iI (if g 6 0 = 0 then -4 else if fP (g 6) (ow (g 6)) (g 6 5) then 1 else 0)) ∧ g' = g) := by
  refine start_i (cc := cX5_fair) (nL := 1) (ret := (some .int)) (own := RX5) (by decide +kernel) rfl rfl (Nat.le_of_ble_eq_true rfl) ?_
  intro p e s m9 below meth c9 C
  have wf25 : Cond.fieldLink RX5 25 (TX5 5).1 (TX5 5).2.1 (TX5 5).2.2.1 ∈ wsX5_fair := by decide +kernel
  have hinX5 : ∀ w ∈ u_ws RX5 TX5 17, w ∈ wsX5_fair := by decide +kernel
  have hn := HI.n
  have ho := ow_bd HI
  have hnt := HI.net
  refine v_lv (lv' := [(0, .ref (a (0)))]) rfl ?_
  refine v_aload_n C 0 dX5_fair_0 rfl ?_
  refine v_cV_i C (As := []) (rest := []) (c_X5_are l D yc t1 t2 a A g HI) (cwV 0 C.hts gX5_fair_X5_are rfl rfl rfl (by decide +kernel) ⟨by decide, by decide⟩) (fun H hP => va_recv C.hK hP (ci := 5) (q0 := (0 : Int).toNat) rfl (wo_is (by omega) (by omega) ct_mod)) rfl rfl (Nat.le_of_ble_eq_true rfl) dX5_fair_1 ?_
  intro r9 g9 h9
  rw [h9.1, h9.2]
  clear h9 g9 r9
  try dsimp only
  refine v_ifb_ne (tgt := 12) C dX5_fair_4 (by decide) (fun c4 => ?_) (fun c4 => ?_)
  · skip
    refine v_aload_n C 0 dX5_fair_12 rfl ?_
    refine v_aload_n C 0 dX5_fair_13 rfl ?_
    refine v_cV_i C (As := []) (rest := [.ref (a (0))]) (c_X5_ownedByOne l D yc t1 t2 a A g HI) (cwV 0 C.hts gX5_fair_X5_ownedByOne rfl rfl rfl (by decide +kernel) ⟨by decide, by decide⟩) (fun H hP => va_recv C.hK hP (ci := 5) (q0 := (0 : Int).toNat) rfl (wo_is (by omega) (by omega) ct_mod)) rfl rfl (Nat.le_of_ble_eq_true rfl) dX5_fair_14 ?_
    intro r9 g9 h9
    rw [h9.1, h9.2]
    clear h9 g9 r9
    try dsimp only
    refine v_aload_n C 0 dX5_fair_17 rfl ?_
    refine v_getf C (by omega) (by omega) ct_mod rfl 5 (by decide) wf25 hinX5 rfl dX5_fair_18 ?_
    refine v_iconst C dX5_fair_21 ?_
    refine v_iaload C (by omega) (by omega) ct_mnow (by omega) (by omega) (by decide) dX5_fair_22 ?_
    refine v_cV_i C (As := [.int (iI (ow (g 6))), .int (iI (g (6) (5)))]) (rest := []) (c_X5_isFair l D yc t1 t2 a A g (ow (g 6)) (g (6) (5)) HI (by omega) (by omega)) (cwV 2 C.hts gX5_fair_X5_isFair rfl rfl rfl (by decide +kernel) ⟨by decide, by decide⟩) (fun H hP => va_recv C.hK hP (ci := 5) (q0 := (0 : Int).toNat) rfl (wo_is (by omega) (by omega) ct_mod)) rfl rfl (Nat.le_of_ble_eq_true rfl) dX5_fair_23 ?_
    intro r9 g9 h9
    rw [h9.1, h9.2]
    clear h9 g9 r9
    try dsimp only
    refine v_ifb_eq (tgt := 33) C dX5_fair_26 (by decide) (fun c26 => ?_) (fun c26 => ?_)
    · skip
      refine v_iconst C dX5_fair_33 ?_
      exact v_ret_i C rfl dX5_fair_34 ⟨(by repeat (first | rfl | rw [if_pos (by first | assumption | omega)] | rw [if_neg (by first | assumption | omega)])), rfl⟩
    · skip
      refine v_iconst C dX5_fair_29 ?_
      refine v_goto (tgt := 34) C dX5_fair_30 (by decide) ?_
      exact v_ret_i C rfl dX5_fair_34 ⟨(by repeat (first | rfl | rw [if_pos (by first | assumption | omega)] | rw [if_neg (by first | assumption | omega)])), rfl⟩
  · skip
    refine v_bipush C dX5_fair_7 (by decide) ?_
    refine v_goto (tgt := 34) C dX5_fair_9 (by decide) ?_
    exact v_ret_i C rfl dX5_fair_34 ⟨(by repeat (first | rfl | rw [if_pos (by first | assumption | omega)] | rw [if_neg (by first | assumption | omega)])), rfl⟩

set_option maxRecDepth 100000 in
set_option maxHeartbeats 4000000 in
theorem c_X5_ways (l : Launch) (D : va_G) (yc : Nat → ClassId) (t1 t2 : Nat) (a : Int → Nat) (A : Nat → Prop) (g : Mm)  (HI : FI (g 6)) : Ci l yX5_ways wsX5_ways { frames := 4, cells := 0, slots := 0, locals := 91 } D yc t1 t2 A (mw a yc) [.ref (a (0))] g (fun r9 g' => r9 = (iI (if g 6 0 = 0 then -4 else wyN (g 6) (pw (g 6 0)))) ∧ g' = (if g 6 0 = 0 then g else mu g 0 11 (wyF (g 6) (pw (g 6 0)).toNat))) := by
  refine start_i (cc := cX5_ways) (nL := 5) (ret := (some .int)) (own := RX5) (by decide +kernel) rfl rfl (Nat.le_of_ble_eq_true rfl) ?_
  intro p e s m9 below meth c9 C
  have wf25 : Cond.fieldLink RX5 25 (TX5 5).1 (TX5 5).2.1 (TX5 5).2.2.1 ∈ wsX5_ways := by decide +kernel
  have hinX5 : ∀ w ∈ u_ws RX5 TX5 17, w ∈ wsX5_ways := by decide +kernel
  have hn := HI.n
  have ho := ow_bd HI
  refine v_lv (lv' := [(0, .ref (a (0)))]) rfl ?_
  refine v_aload_n C 0 dX5_ways_0 rfl ?_
  refine v_cV_i C (As := []) (rest := []) (c_X5_are l D yc t1 t2 a A g HI) (cwV 0 C.hts gX5_ways_X5_are rfl rfl rfl (by decide +kernel) ⟨by decide, by decide⟩) (fun H hP => va_recv C.hK hP (ci := 5) (q0 := (0 : Int).toNat) rfl (wo_is (by omega) (by omega) ct_mod)) rfl rfl (Nat.le_of_ble_eq_true rfl) dX5_ways_1 ?_
  intro r9 g9 h9
  rw [h9.1, h9.2]
  clear h9 g9 r9
  try dsimp only
  refine v_ifb_ne (tgt := 10) C dX5_ways_4 (by decide) (fun c4 => ?_) (fun c4 => ?_)
  · skip
    refine v_iconst C dX5_ways_10 ?_
    refine v_istore_n (lv' := [(1, .int (iI (0))), (0, .ref (a (0)))]) C dX5_ways_11 (by decide) rfl ?_
    refine v_bipush C dX5_ways_12 (by decide) ?_
    refine v_istore_n (lv' := [(2, .int (iI (-9))), (1, .int (iI (0))), (0, .ref (a (0)))]) C dX5_ways_14 (by decide) rfl ?_
    refine v_iconst C dX5_ways_15 ?_
    refine v_istore_n (lv' := [(3, .int (iI (0))), (2, .int (iI (-9))), (1, .int (iI (0))), (0, .ref (a (0)))]) C dX5_ways_16 (by decide) rfl ?_
    refine v_lv (congrArg (fun x9 => ([(3, .int (iI x9)), (2, .int (iI (-9))), (1, .int (iI (0))), (0, .ref (a (0)))] : List (Nat × Value))) (show (0) = (((0 : Int))) by first | rfl | omega | (simp; done))) ?_
    refine v_lv (congrArg (fun x9 => ([(3, .int (iI (((0 : Int))))), (2, .int (iI x9)), (1, .int (iI (0))), (0, .ref (a (0)))] : List (Nat × Value))) (show (-9) = (wyF (g 6) ((0 : Int)).toNat) by first | rfl | omega | (simp; done))) ?_
    refine v_lv (congrArg (fun x9 => ([(3, .int (iI (((0 : Int))))), (2, .int (iI (wyF (g 6) ((0 : Int)).toNat))), (1, .int (iI x9)), (0, .ref (a (0)))] : List (Nat × Value))) (show (0) = (wyN (g 6) ((0 : Int))) by first | rfl | omega | (simp; done))) ?_
    refine v_loop1 (fun (t : Int) => (pw (g 6 0) - t).toNat) (fun (t : Int) => 0 ≤ t ∧ t ≤ pw (g 6 0)) (fun (t : Int) => [(3, .int (iI (t))), (2, .int (iI (wyF (g 6) t.toNat))), (1, .int (iI (wyN (g 6) t))), (0, .ref (a (0)))]) (fun (t : Int) => g) ?_ 0 (by omega)
    intro t hI17 ih17
    try dsimp only at ih17 ⊢
    refine v_iload_n C 0 dX5_ways_17 rfl ?_
    refine v_iconst C dX5_ways_18 ?_
    refine v_aload_n C 3 dX5_ways_19 rfl ?_
    refine v_getf C (by omega) (by omega) ct_mod rfl 5 (by decide) wf25 hinX5 rfl dX5_ways_20 ?_
    refine v_iconst C dX5_ways_23 ?_
    refine v_iaload C (by omega) (by omega) ct_mnow (by omega) (by omega) (by decide) dX5_ways_24 ?_
    refine v_ishl (z := (iI (pw (g 6 0)))) C dX5_ways_25 (shl_1 (by omega) (by omega)) ?_
    refine v_icmp_ge (tgt := 77) C dX5_ways_26 (by decide) (by omega) (by omega) (fun c26 => ?_) (fun c26 => ?_)
    · skip
      have htt : t = pw (g 6 0) := by omega
      refine v_lv (congrArg (fun x9 => ([(3, .int (iI (t))), (2, .int (iI (wyF (g 6) t.toNat))), (1, .int (iI x9)), (0, .ref (a (0)))] : List (Nat × Value))) (show (wyN (g 6) t) = (wyN (g 6) (pw (g 6 0))) by rw [htt])) ?_
      refine v_lv (congrArg (fun x9 => ([(3, .int (iI (t))), (2, .int (iI x9)), (1, .int (iI (wyN (g 6) (pw (g 6 0))))), (0, .ref (a (0)))] : List (Nat × Value))) (show (wyF (g 6) t.toNat) = (wyF (g 6) (pw (g 6 0)).toNat) by rw [htt])) ?_
      refine v_aload_n C 3 dX5_ways_77 rfl ?_
      refine v_iload_n C 2 dX5_ways_78 rfl ?_
      refine v_iload_n C 1 dX5_ways_79 rfl ?_
      refine v_cV_i C (As := [.int (iI (wyN (g 6) (pw (g 6 0)))), .int (iI (wyF (g 6) (pw (g 6 0)).toNat))]) (rest := []) (c_X5_tells l D yc t1 t2 a A g (wyN (g 6) (pw (g 6 0))) (wyF (g 6) (pw (g 6 0)).toNat)) (cwV 2 C.hts gX5_ways_X5_tells rfl rfl rfl (by decide +kernel) ⟨by decide, by decide⟩) (fun H hP => va_recv C.hK hP (ci := 5) (q0 := (0 : Int).toNat) rfl (wo_is (by omega) (by omega) ct_mod)) rfl rfl (Nat.le_of_ble_eq_true rfl) dX5_ways_80 ?_
      intro r9 g9 h9
      rw [h9.1, h9.2]
      clear h9 g9 r9
      try dsimp only
      exact v_ret_i C rfl dX5_ways_83 ⟨(by repeat (first | rfl | rw [if_pos (by omega)] | rw [if_neg (by omega)])), (by repeat (first | rfl | rw [if_pos (by omega)] | rw [if_neg (by omega)]))⟩
    · skip
      refine v_aload_n C 3 dX5_ways_29 rfl ?_
      refine v_iload_n C 0 dX5_ways_30 rfl ?_
      refine v_iconst C dX5_ways_31 ?_
      refine v_cV_i C (As := [.int (iI (t)), .int (iI (0))]) (rest := []) (c_X5_isFair l D yc t1 t2 a A g t 0 HI (by omega) (by omega)) (cwV 2 C.hts gX5_ways_X5_isFair rfl rfl rfl (by decide +kernel) ⟨by decide, by decide⟩) (fun H hP => va_recv C.hK hP (ci := 5) (q0 := (0 : Int).toNat) rfl (wo_is (by omega) (by omega) ct_mod)) rfl rfl (Nat.le_of_ble_eq_true rfl) dX5_ways_32 ?_
      intro r9 g9 h9
      rw [h9.1, h9.2]
      clear h9 g9 r9
      try dsimp only
      refine v_ifb_eq (tgt := 71) C dX5_ways_35 (by decide) (fun c35 => ?_) (fun c35 => ?_)
      · skip
        refine v_iinc (z' := t + 1) (lv' := [(3, .int (iI (t + 1))), (2, .int (iI (wyF (g 6) t.toNat))), (1, .int (iI (wyN (g 6) t))), (0, .ref (a (0)))]) C 0 dX5_ways_71 rfl (by omega) (by decide) rfl ?_
        refine v_goto (tgt := 17) C dX5_ways_74 (by decide) ?_
        refine v_lv (congrArg (fun x9 => ([(3, .int (iI (t + 1))), (2, .int (iI x9)), (1, .int (iI (wyN (g 6) t))), (0, .ref (a (0)))] : List (Nat × Value))) (show (wyF (g 6) t.toNat) = (wyF (g 6) (t + 1).toNat) by first | rfl | (rw [wyF_s (g 6) (t := t) (by omega), if_neg c35]))) ?_
        refine v_lv (congrArg (fun x9 => ([(3, .int (iI (t + 1))), (2, .int (iI (wyF (g 6) (t + 1).toNat))), (1, .int (iI x9)), (0, .ref (a (0)))] : List (Nat × Value))) (show (wyN (g 6) t) = (wyN (g 6) (t + 1)) by first | rfl | (unfold wyN; rw [sI_s _ (by omega), if_neg c35]; omega))) ?_
        exact ih17 (t + 1) (by omega) (by omega)
      · skip
        have hxb := xr_bd (a := t) (b := ow (g 6)) (by omega) (by omega) (by omega) (by omega)
        have hdb := dv_bd (g 6) t
        have hwr := wyF_r (g 6) t.toNat
        refine v_iload_n C 0 dX5_ways_38 rfl ?_
        refine v_aload_n C 3 dX5_ways_39 rfl ?_
        refine v_cV_i C (As := []) (rest := [.int (iI (t))]) (c_X5_ownedByOne l D yc t1 t2 a A g HI) (cwV 0 C.hts gX5_ways_X5_ownedByOne rfl rfl rfl (by decide +kernel) ⟨by decide, by decide⟩) (fun H hP => va_recv C.hK hP (ci := 5) (q0 := (0 : Int).toNat) rfl (wo_is (by omega) (by omega) ct_mod)) rfl rfl (Nat.le_of_ble_eq_true rfl) dX5_ways_40 ?_
        intro r9 g9 h9
        rw [h9.1, h9.2]
        clear h9 g9 r9
        try dsimp only
        refine v_ixor (z := (iI (xr t (ow (g 6))))) C dX5_ways_43 (xor_xr (by omega) (by omega)) ?_
        refine v_cS_i C (As := [.int (iI (xr t (ow (g 6))))]) (rest := []) (c_X5_ones l D yc t1 t2 A (mw a yc) g (xr t (ow (g 6))) (by omega)) (va_cwS 1 C.hts gX5_ways_X5_ones rfl rfl rfl (by decide +kernel) ⟨by decide, by decide⟩) rfl rfl (Nat.le_of_ble_eq_true rfl) dX5_ways_44 ?_
        intro r9 g9 h9
        rw [h9.1, h9.2]
        clear h9 g9 r9
        try dsimp only
        refine v_st (st' := [.int (iI (dv (g 6) t))]) rfl ?_
        refine v_istore (lv' := [(4, .int (iI (dv (g 6) t))), (3, .int (iI (t))), (2, .int (iI (wyF (g 6) t.toNat))), (1, .int (iI (wyN (g 6) t))), (0, .ref (a (0)))]) C dX5_ways_47 (by decide) rfl ?_
        refine v_iinc (z' := wyN (g 6) (t + 1)) (lv' := [(1, .int (iI (wyN (g 6) (t + 1)))), (4, .int (iI (dv (g 6) t))), (3, .int (iI (t))), (2, .int (iI (wyF (g 6) t.toNat))), (0, .ref (a (0)))]) C 3 dX5_ways_49 rfl (by unfold wyN; rw [sI_s _ (by omega), if_pos c35]) (by decide) rfl ?_
        refine v_cut1 70 (fun (v70 : Int) => v70 = wyF (g 6) (t + 1).toNat) (fun (v70 : Int) => [(1, .int (iI (wyN (g 6) (t + 1)))), (4, .int (iI (dv (g 6) t))), (3, .int (iI (t))), (2, .int (iI (wyF (g 6) t.toNat))), (0, .ref (a (0)))]) (fun (v70 : Int) => [.int (iI (v70))]) (fun (v70 : Int) => g) ?_ ?_
        · intro v70 hj70
          try dsimp only
          refine v_st (st' := [.int (iI (wyF (g 6) (t + 1).toNat))]) (by rw [hj70]) ?_
          refine v_istore_n (lv' := [(2, .int (iI (wyF (g 6) (t + 1).toNat))), (1, .int (iI (wyN (g 6) (t + 1)))), (4, .int (iI (dv (g 6) t))), (3, .int (iI (t))), (0, .ref (a (0)))]) C dX5_ways_70 (by decide) rfl ?_
          refine v_iinc (z' := t + 1) (lv' := [(3, .int (iI (t + 1))), (2, .int (iI (wyF (g 6) (t + 1).toNat))), (1, .int (iI (wyN (g 6) (t + 1)))), (4, .int (iI (dv (g 6) t))), (0, .ref (a (0)))]) C 3 dX5_ways_71 rfl (by omega) (by decide) rfl ?_
          refine v_goto (tgt := 17) C dX5_ways_74 (by decide) ?_
          refine v_sub (lv' := [(3, .int (iI (t + 1))), (2, .int (iI (wyF (g 6) (t + 1).toNat))), (1, .int (iI (wyN (g 6) (t + 1)))), (0, .ref (a (0)))]) [0, 1, 2, 4] rfl ?_
          exact ih17 (t + 1) (by omega) (by omega)
        · intro jn70
          try dsimp only at jn70
          refine v_iload_n C 3 dX5_ways_52 rfl ?_
          refine v_bipush C dX5_ways_53 (by decide) ?_
          refine v_icmp_eq (tgt := 64) C dX5_ways_55 (by decide) (by omega) (by omega) (fun c55 => ?_) (fun c55 => ?_)
          · skip
            refine v_iload C 1 dX5_ways_64 rfl ?_
            refine v_goto (tgt := 70) C dX5_ways_66 (by decide) ?_
            exact jn70 (dv (g 6) t) (by rw [wyF_s (g 6) (t := t) (by omega), if_pos c35]; first | rw [if_pos (by omega)] | rw [if_neg (by omega)])
          · skip
            refine v_iload C 1 dX5_ways_58 rfl ?_
            refine v_iload_n C 3 dX5_ways_60 rfl ?_
            refine v_icmp_ge (tgt := 69) C dX5_ways_61 (by decide) (by omega) (by omega) (fun c61 => ?_) (fun c61 => ?_)
            · skip
              refine v_iload_n C 3 dX5_ways_69 rfl ?_
              exact jn70 (wyF (g 6) t.toNat) (by rw [wyF_s (g 6) (t := t) (by omega), if_pos c35]; first | rw [if_pos (by omega)] | rw [if_neg (by omega)])
            · skip
              refine v_iload C 1 dX5_ways_64 rfl ?_
              refine v_goto (tgt := 70) C dX5_ways_66 (by decide) ?_
              exact jn70 (dv (g 6) t) (by rw [wyF_s (g 6) (t := t) (by omega), if_pos c35]; first | rw [if_pos (by omega)] | rw [if_neg (by omega)])
  · skip
    refine v_bipush C dX5_ways_7 (by decide) ?_
    exact v_ret_i C rfl dX5_ways_9 ⟨(by repeat (first | rfl | rw [if_pos (by omega)] | rw [if_neg (by omega)])), (by repeat (first | rfl | rw [if_pos (by omega)] | rw [if_neg (by omega)]))⟩

set_option maxRecDepth 100000 in
set_option maxHeartbeats 4000000 in
theorem c_X5_lesserBy (l : Launch) (D : va_G) (yc : Nat → ClassId) (t1 t2 : Nat) (a : Int → Nat) (A : Nat → Prop) (g : Mm) (se : Int) (HI : FI (g 6)) (hs : 0 ≤ se ∧ se < 1000000) : Ci l yX5_lesserBy wsX5_lesserBy { frames := 3, cells := 0, slots := 0, locals := 69 } D yc t1 t2 A (mw a yc) [.ref (a (0)), .int (iI (se))] g (fun r9 g' => r9 = (iI (ls (g 6) se)) ∧ g' = g) := by
  refine start_i (cc := cX5_lesserBy) (nL := 4) (ret := (some .int)) (own := RX5) (by decide +kernel) rfl rfl (Nat.le_of_ble_eq_true rfl) ?_
  intro p e s m9 below meth c9 C
  have b00 := VB_bd HI se 0 (q := 0) (by omega)
  have b10 := VB_bd HI se 1 (q := 0) (by omega)
  have b01 := VB_bd HI se 0 (q := 1) (by omega)
  have b11 := VB_bd HI se 1 (q := 1) (by omega)
  refine v_lv (lv' := [(0, .ref (a (0))), (1, .int (iI (se)))]) rfl ?_
  refine v_aload_n C 0 dX5_lesserBy_0 rfl ?_
  refine v_iload_n C 1 dX5_lesserBy_1 rfl ?_
  refine v_iconst C dX5_lesserBy_2 ?_
  refine v_iconst C dX5_lesserBy_3 ?_
  refine v_cV_i C (As := [.int (iI (se)), .int (iI (0)), .int (iI (0))]) (rest := []) (c_X5_valueBy l D yc t1 t2 a A g se 0 0 HI (by omega) (by omega) (by omega)) (cwV 3 C.hts gX5_lesserBy_X5_valueBy rfl rfl rfl (by decide +kernel) ⟨by decide, by decide⟩) (fun H hP => va_recv C.hK hP (ci := 5) (q0 := (0 : Int).toNat) rfl (wo_is (by omega) (by omega) ct_mod)) rfl rfl (Nat.le_of_ble_eq_true rfl) dX5_lesserBy_4 ?_
  intro r9 g9 h9
  rw [h9.1, h9.2]
  clear h9 g9 r9
  try dsimp only
  refine v_istore_n (lv' := [(2, .int (iI (VB (g 6) se 0 0))), (0, .ref (a (0))), (1, .int (iI (se)))]) C dX5_lesserBy_7 (by decide) rfl ?_
  refine v_aload_n C 1 dX5_lesserBy_8 rfl ?_
  refine v_iload_n C 2 dX5_lesserBy_9 rfl ?_
  refine v_iconst C dX5_lesserBy_10 ?_
  refine v_iconst C dX5_lesserBy_11 ?_
  refine v_cV_i C (As := [.int (iI (se)), .int (iI (1)), .int (iI (1))]) (rest := []) (c_X5_valueBy l D yc t1 t2 a A g se 1 1 HI (by omega) (by omega) (by omega)) (cwV 3 C.hts gX5_lesserBy_X5_valueBy rfl rfl rfl (by decide +kernel) ⟨by decide, by decide⟩) (fun H hP => va_recv C.hK hP (ci := 5) (q0 := (0 : Int).toNat) rfl (wo_is (by omega) (by omega) ct_mod)) rfl rfl (Nat.le_of_ble_eq_true rfl) dX5_lesserBy_12 ?_
  intro r9 g9 h9
  rw [h9.1, h9.2]
  clear h9 g9 r9
  try dsimp only
  refine v_istore_n (lv' := [(3, .int (iI (VB (g 6) se 1 1))), (2, .int (iI (VB (g 6) se 0 0))), (0, .ref (a (0))), (1, .int (iI (se)))]) C dX5_lesserBy_15 (by decide) rfl ?_
  refine v_iload_n C 1 dX5_lesserBy_16 rfl ?_
  refine v_iload_n C 0 dX5_lesserBy_17 rfl ?_
  refine v_icmp_ge (tgt := 25) C dX5_lesserBy_18 (by decide) (by omega) (by omega) (fun c18 => ?_) (fun c18 => ?_)
  · skip
    refine v_iload_n C 0 dX5_lesserBy_25 rfl ?_
    exact v_ret_i C rfl dX5_lesserBy_26 ⟨(by unfold ls; first | rw [if_pos (by omega)] | rw [if_neg (by omega)]), rfl⟩
  · skip
    refine v_iload_n C 1 dX5_lesserBy_21 rfl ?_
    refine v_goto (tgt := 26) C dX5_lesserBy_22 (by decide) ?_
    exact v_ret_i C rfl dX5_lesserBy_26 ⟨(by unfold ls; first | rw [if_pos (by omega)] | rw [if_neg (by omega)]), rfl⟩

set_option maxRecDepth 100000 in
set_option maxHeartbeats 4000000 in
theorem c_X5_part (l : Launch) (D : va_G) (yc : Nat → ClassId) (t1 t2 : Nat) (a : Int → Nat) (A : Nat → Prop) (g : Mm)  (HI : FI (g 6)) : Ci l yX5_part wsX5_part { frames := 4, cells := 0, slots := 0, locals := 92 } D yc t1 t2 A (mw a yc) [.ref (a (0))] g (fun r9 g' => r9 = (iI (if g 6 0 = 0 then -4 else (ab (lsB (g 6)) (pw (g 6 0) - 1).toNat))) ∧ g' = (if g 6 0 = 0 then g else mu g 0 11 (ls (g 6) (ab (lsB (g 6)) (pw (g 6 0) - 1).toNat)))) := by
  refine start_i (cc := cX5_part) (nL := 3) (ret := (some .int)) (own := RX5) (by decide +kernel) rfl rfl (Nat.le_of_ble_eq_true rfl) ?_
  intro p e s m9 below meth c9 C
  have wf25 : Cond.fieldLink RX5 25 (TX5 5).1 (TX5 5).2.1 (TX5 5).2.2.1 ∈ wsX5_part := by decide +kernel
  have hinX5 : ∀ w ∈ u_ws RX5 TX5 17, w ∈ wsX5_part := by decide +kernel
  have hn := HI.n
  have ho := ow_bd HI
  refine v_lv (lv' := [(0, .ref (a (0)))]) rfl ?_
  refine v_aload_n C 0 dX5_part_0 rfl ?_
  refine v_cV_i C (As := []) (rest := []) (c_X5_are l D yc t1 t2 a A g HI) (cwV 0 C.hts gX5_part_X5_are rfl rfl rfl (by decide +kernel) ⟨by decide, by decide⟩) (fun H hP => va_recv C.hK hP (ci := 5) (q0 := (0 : Int).toNat) rfl (wo_is (by omega) (by omega) ct_mod)) rfl rfl (Nat.le_of_ble_eq_true rfl) dX5_part_1 ?_
  intro r9 g9 h9
  rw [h9.1, h9.2]
  clear h9 g9 r9
  try dsimp only
  refine v_ifb_ne (tgt := 10) C dX5_part_4 (by decide) (fun c4 => ?_) (fun c4 => ?_)
  · skip
    refine v_iconst C dX5_part_10 ?_
    refine v_istore_n (lv' := [(1, .int (iI (0))), (0, .ref (a (0)))]) C dX5_part_11 (by decide) rfl ?_
    refine v_iconst C dX5_part_12 ?_
    refine v_istore_n (lv' := [(2, .int (iI (1))), (1, .int (iI (0))), (0, .ref (a (0)))]) C dX5_part_13 (by decide) rfl ?_
    refine v_lv (congrArg (fun x9 => ([(2, .int (iI x9)), (1, .int (iI (0))), (0, .ref (a (0)))] : List (Nat × Value))) (show (1) = (((1 : Int))) by first | rfl | omega | (simp; done))) ?_
    refine v_lv (congrArg (fun x9 => ([(2, .int (iI (((1 : Int))))), (1, .int (iI x9)), (0, .ref (a (0)))] : List (Nat × Value))) (show (0) = (ab (lsB (g 6)) (((1 : Int)) - 1).toNat) by first | rfl | omega | (simp; done))) ?_
    refine v_loop1 (fun (t : Int) => (pw (g 6 0) - t).toNat) (fun (t : Int) => 1 ≤ t ∧ t ≤ pw (g 6 0)) (fun (t : Int) => [(2, .int (iI (t))), (1, .int (iI (ab (lsB (g 6)) (t - 1).toNat))), (0, .ref (a (0)))]) (fun (t : Int) => g) ?_ 1 (by have := pw_pos (g 6 0); omega)
    intro t hI14 ih14
    try dsimp only at ih14 ⊢
    refine v_iload_n C 0 dX5_part_14 rfl ?_
    refine v_iconst C dX5_part_15 ?_
    refine v_aload_n C 2 dX5_part_16 rfl ?_
    refine v_getf C (by omega) (by omega) ct_mod rfl 5 (by decide) wf25 hinX5 rfl dX5_part_17 ?_
    refine v_iconst C dX5_part_20 ?_
    refine v_iaload C (by omega) (by omega) ct_mnow (by omega) (by omega) (by decide) dX5_part_21 ?_
    refine v_ishl (z := (iI (pw (g 6 0)))) C dX5_part_22 (shl_1 (by omega) (by omega)) ?_
    refine v_icmp_ge (tgt := 51) C dX5_part_23 (by decide) (by omega) (by omega) (fun c23 => ?_) (fun c23 => ?_)
    · skip
      have htt : (t - 1).toNat = (pw (g 6 0) - 1).toNat := by omega
      have hab := ab_r (lsB (g 6)) (pw (g 6 0) - 1).toNat
      refine v_lv (congrArg (fun x9 => ([(2, .int (iI (t))), (1, .int (iI x9)), (0, .ref (a (0)))] : List (Nat × Value))) (show (ab (lsB (g 6)) (t - 1).toNat) = ((ab (lsB (g 6)) (pw (g 6 0) - 1).toNat)) by rw [htt])) ?_
      refine v_aload_n C 2 dX5_part_51 rfl ?_
      refine v_iload_n C 1 dX5_part_52 rfl ?_
      refine v_aload_n C 2 dX5_part_53 rfl ?_
      refine v_iload_n C 1 dX5_part_54 rfl ?_
      refine v_cV_i C (As := [.int (iI ((ab (lsB (g 6)) (pw (g 6 0) - 1).toNat)))]) (rest := [.int (iI ((ab (lsB (g 6)) (pw (g 6 0) - 1).toNat))), .ref (a (0))]) (c_X5_lesserBy l D yc t1 t2 a A g ((ab (lsB (g 6)) (pw (g 6 0) - 1).toNat)) HI (by omega)) (cwV 1 C.hts gX5_part_X5_lesserBy rfl rfl rfl (by decide +kernel) ⟨by decide, by decide⟩) (fun H hP => va_recv C.hK hP (ci := 5) (q0 := (0 : Int).toNat) rfl (wo_is (by omega) (by omega) ct_mod)) rfl rfl (Nat.le_of_ble_eq_true rfl) dX5_part_55 ?_
      intro r9 g9 h9
      rw [h9.1, h9.2]
      clear h9 g9 r9
      try dsimp only
      refine v_cV_i C (As := [.int (iI ((ab (lsB (g 6)) (pw (g 6 0) - 1).toNat))), .int (iI (ls (g 6) ((ab (lsB (g 6)) (pw (g 6 0) - 1).toNat))))]) (rest := []) (c_X5_tells l D yc t1 t2 a A g ((ab (lsB (g 6)) (pw (g 6 0) - 1).toNat)) (ls (g 6) ((ab (lsB (g 6)) (pw (g 6 0) - 1).toNat)))) (cwV 2 C.hts gX5_part_X5_tells rfl rfl rfl (by decide +kernel) ⟨by decide, by decide⟩) (fun H hP => va_recv C.hK hP (ci := 5) (q0 := (0 : Int).toNat) rfl (wo_is (by omega) (by omega) ct_mod)) rfl rfl (Nat.le_of_ble_eq_true rfl) dX5_part_58 ?_
      intro r9 g9 h9
      rw [h9.1, h9.2]
      clear h9 g9 r9
      try dsimp only
      exact v_ret_i C rfl dX5_part_61 ⟨(by repeat (first | rfl | rw [if_pos (by omega)] | rw [if_neg (by omega)])), (by repeat (first | rfl | rw [if_pos (by omega)] | rw [if_neg (by omega)]))⟩
    · skip
      have hab := ab_r (lsB (g 6)) (t - 1).toNat
      have l1 := ls_bd HI t
      have l2 := ls_bd HI (ab (lsB (g 6)) (t - 1).toNat)
      refine v_cut1 44 (fun (v44 : Int) => v44 = ab (lsB (g 6)) t.toNat) (fun (v44 : Int) => [(2, .int (iI (t))), (1, .int (iI (ab (lsB (g 6)) (t - 1).toNat))), (0, .ref (a (0)))]) (fun (v44 : Int) => [.int (iI (v44))]) (fun (v44 : Int) => g) ?_ ?_
      · intro v44 hj44
        try dsimp only
        refine v_st (st' := [.int (iI (ab (lsB (g 6)) (t + 1 - 1).toNat))]) (by rw [hj44, show t + 1 - 1 = t by omega]) ?_
        refine v_istore_n (lv' := [(1, .int (iI (ab (lsB (g 6)) (t + 1 - 1).toNat))), (2, .int (iI (t))), (0, .ref (a (0)))]) C dX5_part_44 (by decide) rfl ?_
        refine v_iinc (z' := t + 1) (lv' := [(2, .int (iI (t + 1))), (1, .int (iI (ab (lsB (g 6)) (t + 1 - 1).toNat))), (0, .ref (a (0)))]) C 1 dX5_part_45 rfl (by omega) (by decide) rfl ?_
        refine v_goto (tgt := 14) C dX5_part_48 (by decide) ?_
        refine v_lv (congrArg (fun x9 => ([(2, .int (iI (t + 1))), (1, .int (iI x9)), (0, .ref (a (0)))] : List (Nat × Value))) (show (ab (lsB (g 6)) (t + 1 - 1).toNat) = (ab (lsB (g 6)) ((t + 1) - 1).toNat) by first | rfl | (omega))) ?_
        exact ih14 (t + 1) (by omega) (by omega)
      · intro jn44
        try dsimp only at jn44
        have hab := ab_r (lsB (g 6)) (t - 1).toNat
        have l1 := ls_bd HI t
        have l2 := ls_bd HI (ab (lsB (g 6)) (t - 1).toNat)
        refine v_aload_n C 2 dX5_part_26 rfl ?_
        refine v_iload_n C 0 dX5_part_27 rfl ?_
        refine v_cV_i C (As := [.int (iI (t))]) (rest := []) (c_X5_lesserBy l D yc t1 t2 a A g t HI (by omega)) (cwV 1 C.hts gX5_part_X5_lesserBy rfl rfl rfl (by decide +kernel) ⟨by decide, by decide⟩) (fun H hP => va_recv C.hK hP (ci := 5) (q0 := (0 : Int).toNat) rfl (wo_is (by omega) (by omega) ct_mod)) rfl rfl (Nat.le_of_ble_eq_true rfl) dX5_part_28 ?_
        intro r9 g9 h9
        rw [h9.1, h9.2]
        clear h9 g9 r9
        try dsimp only
        refine v_aload_n C 2 dX5_part_31 rfl ?_
        refine v_iload_n C 1 dX5_part_32 rfl ?_
        refine v_cV_i C (As := [.int (iI (ab (lsB (g 6)) (t - 1).toNat))]) (rest := [.int (iI (ls (g 6) t))]) (c_X5_lesserBy l D yc t1 t2 a A g (ab (lsB (g 6)) (t - 1).toNat) HI (by omega)) (cwV 1 C.hts gX5_part_X5_lesserBy rfl rfl rfl (by decide +kernel) ⟨by decide, by decide⟩) (fun H hP => va_recv C.hK hP (ci := 5) (q0 := (0 : Int).toNat) rfl (wo_is (by omega) (by omega) ct_mod)) rfl rfl (Nat.le_of_ble_eq_true rfl) dX5_part_33 ?_
        intro r9 g9 h9
        rw [h9.1, h9.2]
        clear h9 g9 r9
        try dsimp only
        refine v_icmp_le (tgt := 43) C dX5_part_36 (by decide) (by omega) (by omega) (fun c36 => ?_) (fun c36 => ?_)
        · skip
          refine v_iload_n C 1 dX5_part_43 rfl ?_
          exact jn44 (ab (lsB (g 6)) (t - 1).toNat) (by rw [ab_s (t := t) (by omega)]; first | rw [if_pos (by exact decide_eq_true (by omega))] | rw [if_neg (by exact fun h => absurd (of_decide_eq_true h) (by omega))])
        · skip
          refine v_iload_n C 0 dX5_part_39 rfl ?_
          refine v_goto (tgt := 44) C dX5_part_40 (by decide) ?_
          exact jn44 t (by rw [ab_s (t := t) (by omega)]; first | rw [if_pos (by exact decide_eq_true (by omega))] | rw [if_neg (by exact fun h => absurd (of_decide_eq_true h) (by omega))])
  · skip
    refine v_bipush C dX5_part_7 (by decide) ?_
    exact v_ret_i C rfl dX5_part_9 ⟨(by repeat (first | rfl | rw [if_pos (by omega)] | rw [if_neg (by omega)])), (by repeat (first | rfl | rw [if_pos (by omega)] | rw [if_neg (by omega)]))⟩

set_option maxRecDepth 100000 in
set_option maxHeartbeats 4000000 in
theorem c_X5_sum (l : Launch) (D : va_G) (yc : Nat → ClassId) (t1 t2 : Nat) (a : Int → Nat) (A : Nat → Prop) (g : Mm)  (HI : FI (g 6)) : Ci l yX5_sum wsX5_sum { frames := 4, cells := 0, slots := 0, locals := 91 } D yc t1 t2 A (mw a yc) [.ref (a (0))] g (fun r9 g' => r9 = (iI (if g 6 0 = 0 then -4 else if (ff (smP (g 6)) 100 0) = -1 then -9 else (ff (smP (g 6)) 100 0))) ∧ g' = (if g 6 0 = 0 then g else if (ff (smP (g 6)) 100 0) = -1 then g else mu g 0 11 (if (ff (smP (g 6)) 100 0) = 0 then -9 else if fP (g 6) (ow (g 6)) (g 6 5 - (ff (smP (g 6)) 100 0)) then 0 else 1))) := by
  refine start_i (cc := cX5_sum) (nL := 4) (ret := (some .int)) (own := RX5) (by decide +kernel) rfl rfl (Nat.le_of_ble_eq_true rfl) ?_
  intro p e s m9 below meth c9 C
  have wf25 : Cond.fieldLink RX5 25 (TX5 5).1 (TX5 5).2.1 (TX5 5).2.2.1 ∈ wsX5_sum := by decide +kernel
  have hinX5 : ∀ w ∈ u_ws RX5 TX5 17, w ∈ wsX5_sum := by decide +kernel
  have hn := HI.n
  have ho := ow_bd HI
  have hnt := HI.net
  refine v_lv (lv' := [(0, .ref (a (0)))]) rfl ?_
  refine v_aload_n C 0 dX5_sum_0 rfl ?_
  refine v_cV_i C (As := []) (rest := []) (c_X5_are l D yc t1 t2 a A g HI) (cwV 0 C.hts gX5_sum_X5_are rfl rfl rfl (by decide +kernel) ⟨by decide, by decide⟩) (fun H hP => va_recv C.hK hP (ci := 5) (q0 := (0 : Int).toNat) rfl (wo_is (by omega) (by omega) ct_mod)) rfl rfl (Nat.le_of_ble_eq_true rfl) dX5_sum_1 ?_
  intro r9 g9 h9
  rw [h9.1, h9.2]
  clear h9 g9 r9
  try dsimp only
  refine v_ifb_ne (tgt := 10) C dX5_sum_4 (by decide) (fun c4 => ?_) (fun c4 => ?_)
  · skip
    refine v_aload_n C 0 dX5_sum_10 rfl ?_
    refine v_cV_i C (As := []) (rest := []) (c_X5_ownedByOne l D yc t1 t2 a A g HI) (cwV 0 C.hts gX5_sum_X5_ownedByOne rfl rfl rfl (by decide +kernel) ⟨by decide, by decide⟩) (fun H hP => va_recv C.hK hP (ci := 5) (q0 := (0 : Int).toNat) rfl (wo_is (by omega) (by omega) ct_mod)) rfl rfl (Nat.le_of_ble_eq_true rfl) dX5_sum_11 ?_
    intro r9 g9 h9
    rw [h9.1, h9.2]
    clear h9 g9 r9
    try dsimp only
    refine v_istore_n (lv' := [(1, .int (iI (ow (g 6)))), (0, .ref (a (0)))]) C dX5_sum_14 (by decide) rfl ?_
    refine v_iconst C dX5_sum_15 ?_
    refine v_istore_n (lv' := [(2, .int (iI (0))), (1, .int (iI (ow (g 6)))), (0, .ref (a (0)))]) C dX5_sum_16 (by decide) rfl ?_
    refine v_lv (congrArg (fun x9 => ([(2, .int (iI x9)), (1, .int (iI (ow (g 6)))), (0, .ref (a (0)))] : List (Nat × Value))) (show (0) = (((0 : Int))) by first | rfl | omega | (simp; done))) ?_
    refine v_loop1 (fun (t : Int) => (100 - t).toNat) (fun (t : Int) => 0 ≤ t ∧ t ≤ 100 ∧ ff (smP (g 6)) (100 - t).toNat t = (ff (smP (g 6)) 100 0)) (fun (t : Int) => [(2, .int (iI (t))), (1, .int (iI (ow (g 6)))), (0, .ref (a (0)))]) (fun (t : Int) => g) ?_ 0 ⟨by omega, by omega, rfl⟩
    intro t hI17 ih17
    try dsimp only at ih17 ⊢
    refine v_iload_n C 0 dX5_sum_17 rfl ?_
    refine v_bipush C dX5_sum_18 (by decide) ?_
    refine v_icmp_ge (tgt := 87) C dX5_sum_20 (by decide) (by omega) (by omega) (fun c20 => ?_) (fun c20 => ?_)
    · skip
      refine v_bipush C dX5_sum_87 (by decide) ?_
      exact v_ret_i C rfl dX5_sum_89 ⟨(by rw [if_neg (by omega), ← hI17.2.2, ff_e (by omega), if_pos rfl]), (by rw [if_neg (by omega), ← hI17.2.2, ff_e (by omega), if_pos rfl])⟩
    · skip
      have hx9 := hI17.2.2
      refine v_aload_n C 2 dX5_sum_23 rfl ?_
      refine v_iload_n C 1 dX5_sum_24 rfl ?_
      refine v_aload_n C 2 dX5_sum_25 rfl ?_
      refine v_getf C (by omega) (by omega) ct_mod rfl 5 (by decide) wf25 hinX5 rfl dX5_sum_26 ?_
      refine v_iconst C dX5_sum_29 ?_
      refine v_iaload C (by omega) (by omega) ct_mnow (by omega) (by omega) (by decide) dX5_sum_30 ?_
      refine v_iload_n C 0 dX5_sum_31 rfl ?_
      refine v_isub C dX5_sum_32 ?_
      refine v_cV_i C (As := [.int (iI (ow (g 6))), .int (iI ((g (6) (5)) - t))]) (rest := []) (c_X5_isFair l D yc t1 t2 a A g (ow (g 6)) ((g (6) (5)) - t) HI (by omega) (by omega)) (cwV 2 C.hts gX5_sum_X5_isFair rfl rfl rfl (by decide +kernel) ⟨by decide, by decide⟩) (fun H hP => va_recv C.hK hP (ci := 5) (q0 := (0 : Int).toNat) rfl (wo_is (by omega) (by omega) ct_mod)) rfl rfl (Nat.le_of_ble_eq_true rfl) dX5_sum_33 ?_
      intro r9 g9 h9
      rw [h9.1, h9.2]
      clear h9 g9 r9
      try dsimp only
      refine v_istore_n (lv' := [(3, .int (bI (VB (g 6) (ow (g 6)) 1 0 - ((g (6) (5)) - t) ≤ VB (g 6) (ow (g 6)) 0 0 + ((g (6) (5)) - t) ∧ VB (g 6) (ow (g 6)) 0 1 + ((g (6) (5)) - t) ≤ VB (g 6) (ow (g 6)) 1 1 - ((g (6) (5)) - t)))), (2, .int (iI (t))), (1, .int (iI (ow (g 6)))), (0, .ref (a (0)))]) C dX5_sum_36 (by decide) rfl ?_
      refine v_iload_n C 0 dX5_sum_37 rfl ?_
      refine v_ifb_ne (tgt := 57) C dX5_sum_38 (by decide) (fun c38 => ?_) (fun c38 => ?_)
      · skip
        refine v_aload_n C 3 dX5_sum_57 rfl ?_
        refine v_iload_n C 1 dX5_sum_58 rfl ?_
        refine v_cut1 77 (fun (v77 : Int) => v77 = if t = 0 then -9 else if fP (g 6) (ow (g 6)) (g 6 5 - t) then 0 else 1) (fun (v77 : Int) => [(3, .int (bI (VB (g 6) (ow (g 6)) 1 0 - ((g (6) (5)) - t) ≤ VB (g 6) (ow (g 6)) 0 0 + ((g (6) (5)) - t) ∧ VB (g 6) (ow (g 6)) 0 1 + ((g (6) (5)) - t) ≤ VB (g 6) (ow (g 6)) 1 1 - ((g (6) (5)) - t)))), (2, .int (iI (t))), (1, .int (iI (ow (g 6)))), (0, .ref (a (0)))]) (fun (v77 : Int) => [.int (iI (v77)), .int (iI (t)), .ref (a (0))]) (fun (v77 : Int) => g) ?_ ?_
        · intro v77 hj77
          try dsimp only
          refine v_cV_i C (As := [.int (iI (t)), .int (iI (v77))]) (rest := []) (c_X5_tells l D yc t1 t2 a A g t v77) (cwV 2 C.hts gX5_sum_X5_tells rfl rfl rfl (by decide +kernel) ⟨by decide, by decide⟩) (fun H hP => va_recv C.hK hP (ci := 5) (q0 := (0 : Int).toNat) rfl (wo_is (by omega) (by omega) ct_mod)) rfl rfl (Nat.le_of_ble_eq_true rfl) dX5_sum_77 ?_
          intro r9 g9 h9
          rw [h9.1, h9.2]
          clear h9 g9 r9
          try dsimp only
          exact v_ret_i C rfl dX5_sum_80 ⟨(by rw [if_neg (by omega), ← hx9, ff_y (by omega) (decide_eq_true (by omega)), if_neg (by omega)]), (by rw [if_neg (by omega), ← hx9, ff_y (by omega) (decide_eq_true (by omega)), if_neg (by omega), hj77])⟩
        · intro jn77
          try dsimp only at jn77
          refine v_iload_n C 1 dX5_sum_59 rfl ?_
          refine v_if_ne (tgt := 68) C dX5_sum_60 (by decide) (by omega) (fun c60 => ?_) (fun c60 => ?_)
          · skip
            refine v_iload_n C 0 dX5_sum_68 rfl ?_
            refine v_ifb_eq (tgt := 76) C dX5_sum_69 (by decide) (fun c69 => ?_) (fun c69 => ?_)
            · skip
              refine v_iconst C dX5_sum_76 ?_
              exact jn77 1 (by first | (exfalso; omega) | repeat (first | rfl | rw [if_pos (by omega)] | rw [if_neg (by omega)]))
            · skip
              refine v_iconst C dX5_sum_72 ?_
              refine v_goto (tgt := 77) C dX5_sum_73 (by decide) ?_
              exact jn77 0 (by first | (exfalso; omega) | repeat (first | rfl | rw [if_pos (by omega)] | rw [if_neg (by omega)]))
          · skip
            refine v_bipush C dX5_sum_63 (by decide) ?_
            refine v_goto (tgt := 77) C dX5_sum_65 (by decide) ?_
            exact jn77 (-9) (by first | (exfalso; omega) | repeat (first | rfl | rw [if_pos (by omega)] | rw [if_neg (by omega)]))
      · skip
        refine v_aload_n C 3 dX5_sum_41 rfl ?_
        refine v_iload_n C 2 dX5_sum_42 rfl ?_
        refine v_aload_n C 3 dX5_sum_43 rfl ?_
        refine v_getf C (by omega) (by omega) ct_mod rfl 5 (by decide) wf25 hinX5 rfl dX5_sum_44 ?_
        refine v_iconst C dX5_sum_47 ?_
        refine v_iaload C (by omega) (by omega) ct_mnow (by omega) (by omega) (by decide) dX5_sum_48 ?_
        refine v_iload_n C 1 dX5_sum_49 rfl ?_
        refine v_iadd C dX5_sum_50 ?_
        refine v_cV_i C (As := [.int (iI (ow (g 6))), .int (iI ((g (6) (5)) + t))]) (rest := []) (c_X5_isFair l D yc t1 t2 a A g (ow (g 6)) ((g (6) (5)) + t) HI (by omega) (by omega)) (cwV 2 C.hts gX5_sum_X5_isFair rfl rfl rfl (by decide +kernel) ⟨by decide, by decide⟩) (fun H hP => va_recv C.hK hP (ci := 5) (q0 := (0 : Int).toNat) rfl (wo_is (by omega) (by omega) ct_mod)) rfl rfl (Nat.le_of_ble_eq_true rfl) dX5_sum_51 ?_
        intro r9 g9 h9
        rw [h9.1, h9.2]
        clear h9 g9 r9
        try dsimp only
        refine v_ifb_eq (tgt := 81) C dX5_sum_54 (by decide) (fun c54 => ?_) (fun c54 => ?_)
        · skip
          refine v_iinc (z' := t + 1) (lv' := [(2, .int (iI (t + 1))), (3, .int (bI (VB (g 6) (ow (g 6)) 1 0 - ((g (6) (5)) - t) ≤ VB (g 6) (ow (g 6)) 0 0 + ((g (6) (5)) - t) ∧ VB (g 6) (ow (g 6)) 0 1 + ((g (6) (5)) - t) ≤ VB (g 6) (ow (g 6)) 1 1 - ((g (6) (5)) - t)))), (1, .int (iI (ow (g 6)))), (0, .ref (a (0)))]) C 1 dX5_sum_81 rfl (by omega) (by decide) rfl ?_
          refine v_goto (tgt := 17) C dX5_sum_84 (by decide) ?_
          refine v_sub (lv' := [(2, .int (iI (t + 1))), (1, .int (iI (ow (g 6)))), (0, .ref (a (0)))]) [0, 2, 3] rfl ?_
          exact ih17 (t + 1) ⟨by omega, by omega, by rw [← hx9]; exact (ff_n (by omega) (fun h => absurd (of_decide_eq_true h) (by omega))).symm⟩ (by omega)
        · skip
          refine v_aload_n C 3 dX5_sum_57 rfl ?_
          refine v_iload_n C 1 dX5_sum_58 rfl ?_
          refine v_cut1 77 (fun (v77 : Int) => v77 = if t = 0 then -9 else if fP (g 6) (ow (g 6)) (g 6 5 - t) then 0 else 1) (fun (v77 : Int) => [(3, .int (bI (VB (g 6) (ow (g 6)) 1 0 - ((g (6) (5)) - t) ≤ VB (g 6) (ow (g 6)) 0 0 + ((g (6) (5)) - t) ∧ VB (g 6) (ow (g 6)) 0 1 + ((g (6) (5)) - t) ≤ VB (g 6) (ow (g 6)) 1 1 - ((g (6) (5)) - t)))), (2, .int (iI (t))), (1, .int (iI (ow (g 6)))), (0, .ref (a (0)))]) (fun (v77 : Int) => [.int (iI (v77)), .int (iI (t)), .ref (a (0))]) (fun (v77 : Int) => g) ?_ ?_
          · intro v77 hj77
            try dsimp only
            refine v_cV_i C (As := [.int (iI (t)), .int (iI (v77))]) (rest := []) (c_X5_tells l D yc t1 t2 a A g t v77) (cwV 2 C.hts gX5_sum_X5_tells rfl rfl rfl (by decide +kernel) ⟨by decide, by decide⟩) (fun H hP => va_recv C.hK hP (ci := 5) (q0 := (0 : Int).toNat) rfl (wo_is (by omega) (by omega) ct_mod)) rfl rfl (Nat.le_of_ble_eq_true rfl) dX5_sum_77 ?_
            intro r9 g9 h9
            rw [h9.1, h9.2]
            clear h9 g9 r9
            try dsimp only
            exact v_ret_i C rfl dX5_sum_80 ⟨(by rw [if_neg (by omega), ← hx9, ff_y (by omega) (decide_eq_true (by omega)), if_neg (by omega)]), (by rw [if_neg (by omega), ← hx9, ff_y (by omega) (decide_eq_true (by omega)), if_neg (by omega), hj77])⟩
          · intro jn77
            try dsimp only at jn77
            refine v_iload_n C 1 dX5_sum_59 rfl ?_
            refine v_if_ne (tgt := 68) C dX5_sum_60 (by decide) (by omega) (fun c60 => ?_) (fun c60 => ?_)
            · skip
              refine v_iload_n C 0 dX5_sum_68 rfl ?_
              refine v_ifb_eq (tgt := 76) C dX5_sum_69 (by decide) (fun c69 => ?_) (fun c69 => ?_)
              · skip
                refine v_iconst C dX5_sum_76 ?_
                exact jn77 1 (by first | (exfalso; omega) | repeat (first | rfl | rw [if_pos (by omega)] | rw [if_neg (by omega)]))
              · skip
                refine v_iconst C dX5_sum_72 ?_
                refine v_goto (tgt := 77) C dX5_sum_73 (by decide) ?_
                exact jn77 0 (by first | (exfalso; omega) | repeat (first | rfl | rw [if_pos (by omega)] | rw [if_neg (by omega)]))
            · skip
              refine v_bipush C dX5_sum_63 (by decide) ?_
              refine v_goto (tgt := 77) C dX5_sum_65 (by decide) ?_
              exact jn77 (-9) (by first | (exfalso; omega) | repeat (first | rfl | rw [if_pos (by omega)] | rw [if_neg (by omega)]))
  · skip
    refine v_bipush C dX5_sum_7 (by decide) ?_
    exact v_ret_i C rfl dX5_sum_9 ⟨(by repeat (first | rfl | rw [if_pos (by omega)] | rw [if_neg (by omega)])), (by repeat (first | rfl | rw [if_pos (by omega)] | rw [if_neg (by omega)]))⟩
