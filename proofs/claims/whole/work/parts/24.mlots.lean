set_option maxRecDepth 100000 in
set_option maxHeartbeats 4000000 in
theorem c_X5_lots (l : Launch) (D : va_G) (yc : Nat → ClassId) (t1 t2 : Nat) (a : Int → Nat) (A : Nat → Prop) (g : Mm) (n sd : Int) (hn : R32 n) (hsd : R32 sd) (HI : FI (g 6)) : Ci l yX5_lots wsX5_lots { frames := 3, cells := 0, slots := 0, locals := 64 } D yc t1 t2 A (mw a yc) [.ref (a (0)), .int (iI (n)), .int (iI (sd))] g (fun r9 g' => r9 = (iI (if (n < 1 ∨ 20 < n) ∨ (sd < 1 ∨ 2147483646 < sd) then -1 else if g 6 0 = 0 then -4 else if 60 < g 6 4 + n then -2 else g 6 0 - sI (bt (ow (lF (g 6) sd n.toNat))) 24)) ∧ g' = (if (n < 1 ∨ 20 < n) ∨ (sd < 1 ∨ 2147483646 < sd) then g else if g 6 0 = 0 then g else if 60 < g 6 4 + n then g else ru g 6 (lF (g 6) sd n.toNat))) := by
  refine start_i (cc := cX5_lots) (nL := 6) (ret := (some .int)) (own := RX5) (by decide +kernel) rfl rfl (Nat.le_of_ble_eq_true rfl) ?_
  intro p e s m9 below meth c9 C
  have wk208 : Cond.constant RX5 208 2147483646 ∈ wsX5_lots := by decide +kernel
  have wf25 : Cond.fieldLink RX5 25 (TX5 5).1 (TX5 5).2.1 (TX5 5).2.2.1 ∈ wsX5_lots := by decide +kernel
  have hinX5 : ∀ w ∈ u_ws RX5 TX5 17, w ∈ wsX5_lots := by decide +kernel
  have wk209 : Cond.constantLong RX5 209 48271 ∈ wsX5_lots := by decide +kernel
  have wk211 : Cond.constantLong RX5 211 2147483647 ∈ wsX5_lots := by decide +kernel
  have wk213 : Cond.constantLong RX5 213 3 ∈ wsX5_lots := by decide +kernel
  have wk194 : Cond.constantLong RX5 194 2 ∈ wsX5_lots := by decide +kernel
  have wk217 : Cond.constantLong RX5 217 16 ∈ wsX5_lots := by decide +kernel
  have wk219 : Cond.constantLong RX5 219 64 ∈ wsX5_lots := by decide +kernel
  have wk221 : Cond.constantLong RX5 221 9 ∈ wsX5_lots := by decide +kernel
  have wk215 : Cond.constantLong RX5 215 8 ∈ wsX5_lots := by decide +kernel
  have hn9 := HI.n
  refine v_lv (lv' := [(0, .ref (a (0))), (1, .int (iI (n))), (2, .int (iI (sd)))]) rfl ?_
  refine v_iload_n C 1 dX5_lots_0 rfl ?_
  refine v_iconst C dX5_lots_1 ?_
  refine v_bipush C dX5_lots_2 (by decide) ?_
  refine v_cS_i C (As := [.int (iI (n)), .int (iI (1)), .int (iI (20))]) (rest := []) (c_X5_in l D yc t1 t2 A (mw a yc) g n 1 20 (by omega) (by omega) (by omega)) (va_cwS 3 C.hts gX5_lots_X5_in rfl rfl rfl (by decide +kernel) ⟨by decide, by decide⟩) rfl rfl (Nat.le_of_ble_eq_true rfl) dX5_lots_4 ?_
  intro r9 g9 h9
  rw [h9.1, h9.2]
  clear h9 g9 r9
  try dsimp only
  refine v_ifb_eq (tgt := 20) C dX5_lots_7 (by decide) (fun c7 => ?_) (fun c7 => ?_)
  · skip
    refine v_iconst C dX5_lots_20 ?_
    exact v_ret_i C rfl dX5_lots_21 ⟨(by repeat (first | rfl | rw [if_pos (by omega)] | rw [if_neg (by omega)])), (by repeat (first | rfl | rw [if_pos (by omega)] | rw [if_neg (by omega)]))⟩
  · skip
    refine v_iload_n C 2 dX5_lots_10 rfl ?_
    refine v_iconst C dX5_lots_11 ?_
    refine v_ldc (z := 2147483646) C wk208 dX5_lots_12 (by decide) ?_
    refine v_cS_i C (As := [.int (iI (sd)), .int (iI (1)), .int (iI (2147483646))]) (rest := []) (c_X5_in l D yc t1 t2 A (mw a yc) g sd 1 2147483646 (by omega) (by omega) (by omega)) (va_cwS 3 C.hts gX5_lots_X5_in rfl rfl rfl (by decide +kernel) ⟨by decide, by decide⟩) rfl rfl (Nat.le_of_ble_eq_true rfl) dX5_lots_14 ?_
    intro r9 g9 h9
    rw [h9.1, h9.2]
    clear h9 g9 r9
    try dsimp only
    refine v_ifb_ne (tgt := 22) C dX5_lots_17 (by decide) (fun c17 => ?_) (fun c17 => ?_)
    · skip
      refine v_aload_n C 0 dX5_lots_22 rfl ?_
      refine v_cV_i C (As := []) (rest := []) (c_X5_are l D yc t1 t2 a A g HI) (cwV 0 C.hts gX5_lots_X5_are rfl rfl rfl (by decide +kernel) ⟨by decide, by decide⟩) (fun H hP => va_recv C.hK hP (ci := 5) (q0 := (0 : Int).toNat) rfl (wo_is (by omega) (by omega) ct_mod)) rfl rfl (Nat.le_of_ble_eq_true rfl) dX5_lots_23 ?_
      intro r9 g9 h9
      rw [h9.1, h9.2]
      clear h9 g9 r9
      try dsimp only
      refine v_ifb_ne (tgt := 32) C dX5_lots_26 (by decide) (fun c26 => ?_) (fun c26 => ?_)
      · skip
        refine v_aload_n C 0 dX5_lots_32 rfl ?_
        refine v_getf C (by omega) (by omega) ct_mod rfl 5 (by decide) wf25 hinX5 rfl dX5_lots_33 ?_
        refine v_iconst C dX5_lots_36 ?_
        refine v_iaload C (by omega) (by omega) ct_mnow (by omega) (by omega) (by decide) dX5_lots_37 ?_
        refine v_iload_n C 1 dX5_lots_38 rfl ?_
        refine v_iadd C dX5_lots_39 ?_
        refine v_bipush C dX5_lots_40 (by decide) ?_
        refine v_icmp_le (tgt := 48) C dX5_lots_42 (by decide) (by omega) (by omega) (fun c42 => ?_) (fun c42 => ?_)
        · skip
          refine v_iload_n C 2 dX5_lots_48 rfl ?_
          refine v_i2l C dX5_lots_49 (by omega) ?_
          refine v_lstore_n (lv' := [(3, .long (lI (sd))), (0, .ref (a (0))), (1, .int (iI (n))), (2, .int (iI (sd)))]) C dX5_lots_50 (by decide) rfl ?_
          refine v_iconst C dX5_lots_51 ?_
          refine v_istore (lv' := [(5, .int (iI (0))), (3, .long (lI (sd))), (0, .ref (a (0))), (1, .int (iI (n))), (2, .int (iI (sd)))]) C dX5_lots_52 (by decide) rfl ?_
          refine v_g (g' := (ru g 6 (lF (g 6) sd (0 : Int).toNat))) (ru_self g 6).symm ?_
          refine v_lv (congrArg (fun x9 => ([(5, .int (iI x9)), (3, .long (lI (sd))), (0, .ref (a (0))), (1, .int (iI (n))), (2, .int (iI (sd)))] : List (Nat × Value))) (show (0) = (((0 : Int))) by first | rfl | omega | (simp; done))) ?_
          refine v_lv (congrArg (fun x9 => ([(5, .int (iI (((0 : Int))))), (3, .long (lI x9)), (0, .ref (a (0))), (1, .int (iI (n))), (2, .int (iI (sd)))] : List (Nat × Value))) (show (sd) = (lx sd ((0 : Int)).toNat) by first | rfl | omega | (simp; done))) ?_
          refine v_loop1 (fun (t : Int) => (n - t).toNat) (fun (t : Int) => 0 ≤ t ∧ t ≤ n) (fun (t : Int) => [(5, .int (iI (t))), (3, .long (lI (lx sd t.toNat))), (0, .ref (a (0))), (1, .int (iI (n))), (2, .int (iI (sd)))]) (fun (t : Int) => (ru g 6 (lF (g 6) sd t.toNat))) ?_ 0 (by omega)
          intro t hI54 ih54
          try dsimp only at ih54 ⊢
          refine v_iload C 0 dX5_lots_54 rfl ?_
          refine v_iload_n C 3 dX5_lots_56 rfl ?_
          refine v_icmp_ge (tgt := 174) C dX5_lots_57 (by decide) (by omega) (by omega) (fun c57 => ?_) (fun c57 => ?_)
          · skip
            have htn : t = n := by omega
            have hok := lF_ok HI (by omega) (s := sd) (by omega) (by omega) n.toNat (by omega)
            have how := ow_bd hok.1
            have hob := ones_bd (ow (lF (g 6) sd n.toNat))
            refine v_g (g' := (ru g 6 (lF (g 6) sd n.toNat))) (by rw [htn]) ?_
            refine v_aload_n C 2 dX5_lots_174 rfl ?_
            refine v_getf C (by omega) (by omega) ct_mod rfl 5 (by decide) wf25 hinX5 rfl dX5_lots_175 ?_
            refine v_iconst C dX5_lots_178 ?_
            refine v_iaload C (by omega) (by omega) ct_mnow (by omega) (by omega) (by decide) dX5_lots_179 ?_
            refine v_st (st' := [.int (iI (g 6 0))]) (by rw [ru_at, hok.2.1]) ?_
            refine v_aload_n C 2 dX5_lots_180 rfl ?_
            refine v_cV_i C (As := []) (rest := [.int (iI (g 6 0))]) (c_X5_ownedByOne l D yc t1 t2 a A (ru g 6 (lF (g 6) sd n.toNat)) (by rw [ru_at]; exact hok.1)) (cwV 0 C.hts gX5_lots_X5_ownedByOne rfl rfl rfl (by decide +kernel) ⟨by decide, by decide⟩) (fun H hP => va_recv C.hK hP (ci := 5) (q0 := (0 : Int).toNat) rfl (wo_is (by omega) (by omega) ct_mod)) rfl rfl (Nat.le_of_ble_eq_true rfl) dX5_lots_181 ?_
            intro r9 g9 h9
            rw [h9.1, h9.2]
            clear h9 g9 r9
            try dsimp only
            refine v_st (st' := [.int (iI (ow (lF (g 6) sd n.toNat))), .int (iI (g 6 0))]) (by rw [ru_at]) ?_
            refine v_cS_i C (As := [.int (iI (ow (lF (g 6) sd n.toNat)))]) (rest := [.int (iI (g 6 0))]) (c_X5_ones l D yc t1 t2 A (mw a yc) (ru g 6 (lF (g 6) sd n.toNat)) (ow (lF (g 6) sd n.toNat)) (by omega)) (va_cwS 1 C.hts gX5_lots_X5_ones rfl rfl rfl (by decide +kernel) ⟨by decide, by decide⟩) rfl rfl (Nat.le_of_ble_eq_true rfl) dX5_lots_184 ?_
            intro r9 g9 h9
            rw [h9.1, h9.2]
            clear h9 g9 r9
            try dsimp only
            refine v_isub C dX5_lots_187 ?_
            exact v_ret_i C rfl dX5_lots_188 ⟨(by repeat (first | rfl | rw [if_pos (by omega)] | rw [if_neg (by omega)])), (by repeat (first | rfl | rw [if_pos (by omega)] | rw [if_neg (by omega)]))⟩
          · skip
            have hok := lF_ok HI (by omega) (s := sd) (by omega) (by omega) t.toNat (by omega)
            have hok2 := lF_ok HI (by omega) (s := sd) (by omega) (by omega) (t + 1).toNat (by omega)
            have hxb := lx_bd (s := sd) (by omega) (by omega) t.toNat
            have hyb := lx_bd (s := sd) (by omega) (by omega) (t + 1).toNat
            have hm9 := emd (d := lx sd (t + 1).toNat / 8) (n := g 6 0) (by omega)
            have htd := hok.1.td
            refine v_lload_n C 1 dX5_lots_60 rfl ?_
            refine v_ldc2 (z := 48271) C wk209 dX5_lots_61 (by decide) ?_
            refine v_lmul C dX5_lots_64 ?_
            refine v_ldc2 (z := 2147483647) C wk211 dX5_lots_65 (by decide) ?_
            refine v_lremR (z := (lI (lx sd t.toNat * 48271 % 2147483647))) C dX5_lots_68 (lI_ne (by omega) (by omega)) (lI_rem (by omega) (by omega) (by omega) (by omega)) ?_
            refine v_st (st' := [.long (lI (lx sd (t + 1).toNat))]) (by rw [lx_s (by omega)]) ?_
            refine v_lstore_n (lv' := [(3, .long (lI (lx sd (t + 1).toNat))), (5, .int (iI (t))), (0, .ref (a (0))), (1, .int (iI (n))), (2, .int (iI (sd)))]) C dX5_lots_69 (by decide) rfl ?_
            refine v_lload_n C 0 dX5_lots_70 rfl ?_
            refine v_ldc2 (z := 3) C wk213 dX5_lots_71 (by decide) ?_
            refine v_lremR (z := (lI ((lx sd (t + 1).toNat) % 3))) C dX5_lots_74 (lI_ne (by omega) (by omega)) (lI_rem (by omega) (by omega) (by omega) (by omega)) ?_
            refine v_lconst (z := 1) C dX5_lots_75 (by decide) ?_
            refine v_lcmp C (by omega) (by omega) dX5_lots_76 (fun h_1 => ?_) (fun h_2 => ?_) (fun h_3 => ?_)
            · skip
              refine v_if_ne (tgt := 103) C dX5_lots_77 (by decide) (by decide) (fun _ => ?_) (fun h9 => absurd h9 (by decide))
              refine v_lload_n C 0 dX5_lots_103 rfl ?_
              refine v_ldc2 (z := 3) C wk213 dX5_lots_104 (by decide) ?_
              refine v_lremR (z := (lI ((lx sd (t + 1).toNat) % 3))) C dX5_lots_107 (lI_ne (by omega) (by omega)) (lI_rem (by omega) (by omega) (by omega) (by omega)) ?_
              refine v_ldc2 (z := 2) C wk194 dX5_lots_108 (by decide) ?_
              refine v_lcmp C (by omega) (by omega) dX5_lots_111 (fun h_4 => ?_) (fun h_5 => ?_) (fun h_6 => ?_)
              · skip
                refine v_if_ne (tgt := 151) C dX5_lots_112 (by decide) (by decide) (fun _ => ?_) (fun h9 => absurd h9 (by decide))
                refine v_aload_n C 2 dX5_lots_151 rfl ?_
                refine v_getf C (by omega) (by omega) ct_mod rfl 5 (by decide) wf25 hinX5 rfl dX5_lots_152 ?_
                refine v_iconst C dX5_lots_155 ?_
                refine v_iaload C (by omega) (by omega) ct_mnow (by omega) (by omega) (by decide) dX5_lots_156 ?_
                refine v_st (st' := [.int (iI ((lF (g 6) sd t.toNat) 3))]) (by rw [ru_at]) ?_
                refine v_sipush C dX5_lots_157 (by decide) ?_
                refine v_icmp_ge (tgt := 168) C dX5_lots_160 (by decide) (by omega) (by omega) (fun c160 => ?_) (fun c160 => ?_)
                · skip
                  refine v_g (g' := (ru g 6 (lF (g 6) sd (t + 1).toNat))) (by first | (exfalso; omega) | ((first | rw [ru_ru, ru_at] | skip); rw [lF_s (by omega)]; unfold lot1; rw [hok.2.1]; repeat (first | rfl | rw [if_pos (by omega)] | rw [if_neg (by omega)]))) ?_
                  refine v_iinc (z' := t + 1) (lv' := [(5, .int (iI (t + 1))), (3, .long (lI (lx sd (t + 1).toNat))), (0, .ref (a (0))), (1, .int (iI (n))), (2, .int (iI (sd)))]) C 1 dX5_lots_168 rfl (by omega) (by decide) rfl ?_
                  refine v_goto (tgt := 54) C dX5_lots_171 (by decide) ?_
                  exact ih54 (t + 1) (by omega) (by omega)
                · skip
                  refine v_aload_n C 2 dX5_lots_163 rfl ?_
                  refine v_iconst C dX5_lots_164 ?_
                  refine v_cV_v C (As := [.int (iI (0))]) (rest := []) (c_X5_does l D yc t1 t2 a A (ru g 6 (lF (g 6) sd t.toNat)) 0 (by omega) (by rw [ru_at]; omega)) (cwV 1 C.hts gX5_lots_X5_does rfl rfl rfl (by decide +kernel) ⟨by decide, by decide⟩) (fun H hP => va_recv C.hK hP (ci := 5) (q0 := (0 : Int).toNat) rfl (wo_is (by omega) (by omega) ct_mod)) rfl rfl (Nat.le_of_ble_eq_true rfl) dX5_lots_165 ?_
                  intro g9 h9
                  rw [h9]
                  clear h9 g9
                  try dsimp only
                  refine v_g (g' := (ru g 6 (lF (g 6) sd (t + 1).toNat))) (by first | (exfalso; omega) | ((first | rw [ru_ru, ru_at] | skip); rw [lF_s (by omega)]; unfold lot1; rw [hok.2.1]; repeat (first | rfl | rw [if_pos (by omega)] | rw [if_neg (by omega)]))) ?_
                  refine v_iinc (z' := t + 1) (lv' := [(5, .int (iI (t + 1))), (3, .long (lI (lx sd (t + 1).toNat))), (0, .ref (a (0))), (1, .int (iI (n))), (2, .int (iI (sd)))]) C 1 dX5_lots_168 rfl (by omega) (by decide) rfl ?_
                  refine v_goto (tgt := 54) C dX5_lots_171 (by decide) ?_
                  exact ih54 (t + 1) (by omega) (by omega)
              · skip
                refine v_if_ne (tgt := 151) C dX5_lots_112 (by decide) (by decide) (fun h9 => absurd h9 (by decide)) (fun _ => ?_)
                refine v_aload_n C 2 dX5_lots_115 rfl ?_
                refine v_bipush C dX5_lots_116 (by decide) ?_
                refine v_bipush C dX5_lots_118 (by decide) ?_
                refine v_lload_n C 0 dX5_lots_120 rfl ?_
                refine v_ldc2 (z := 16) C wk217 dX5_lots_121 (by decide) ?_
                refine v_ldivR (z := (lI ((lx sd (t + 1).toNat) / 16))) C dX5_lots_124 (lI_ne (by omega) (by omega)) (lI_div (by omega) (by omega) (by omega) (by omega)) ?_
                refine v_ldc2 (z := 2) C wk194 dX5_lots_125 (by decide) ?_
                refine v_lremR (z := (lI ((lx sd (t + 1).toNat) / 16 % 2))) C dX5_lots_128 (lI_ne (by omega) (by omega)) (lI_rem (by omega) (by omega) (by omega) (by omega)) ?_
                refine v_l2i C dX5_lots_129 ?_
                refine v_imul C dX5_lots_130 ?_
                refine v_iadd C dX5_lots_131 ?_
                refine v_lload_n C 0 dX5_lots_132 rfl ?_
                refine v_ldc2 (z := 64) C wk219 dX5_lots_133 (by decide) ?_
                refine v_ldivR (z := (lI ((lx sd (t + 1).toNat) / 64))) C dX5_lots_136 (lI_ne (by omega) (by omega)) (lI_div (by omega) (by omega) (by omega) (by omega)) ?_
                refine v_ldc2 (z := 9) C wk221 dX5_lots_137 (by decide) ?_
                refine v_lremR (z := (lI ((lx sd (t + 1).toNat) / 64 % 9))) C dX5_lots_140 (lI_ne (by omega) (by omega)) (lI_rem (by omega) (by omega) (by omega) (by omega)) ?_
                refine v_l2i C dX5_lots_141 ?_
                refine v_iadd C dX5_lots_142 ?_
                refine v_iconst C dX5_lots_143 ?_
                refine v_iadd C dX5_lots_144 ?_
                refine v_cV_v C (As := [.int (iI (((100 + (100 * ((lx sd (t + 1).toNat) / 16 % 2))) + ((lx sd (t + 1).toNat) / 64 % 9)) + 1))]) (rest := []) (c_X5_does l D yc t1 t2 a A (ru g 6 (lF (g 6) sd t.toNat)) (((100 + (100 * ((lx sd (t + 1).toNat) / 16 % 2))) + ((lx sd (t + 1).toNat) / 64 % 9)) + 1) (by omega) (by rw [ru_at]; omega)) (cwV 1 C.hts gX5_lots_X5_does rfl rfl rfl (by decide +kernel) ⟨by decide, by decide⟩) (fun H hP => va_recv C.hK hP (ci := 5) (q0 := (0 : Int).toNat) rfl (wo_is (by omega) (by omega) ct_mod)) rfl rfl (Nat.le_of_ble_eq_true rfl) dX5_lots_145 ?_
                intro g9 h9
                rw [h9]
                clear h9 g9
                try dsimp only
                refine v_goto (tgt := 168) C dX5_lots_148 (by decide) ?_
                refine v_g (g' := (ru g 6 (lF (g 6) sd (t + 1).toNat))) (by first | (exfalso; omega) | ((first | rw [ru_ru, ru_at] | skip); rw [lF_s (by omega)]; unfold lot1; rw [hok.2.1]; repeat (first | rfl | rw [if_pos (by omega)] | rw [if_neg (by omega)]))) ?_
                refine v_iinc (z' := t + 1) (lv' := [(5, .int (iI (t + 1))), (3, .long (lI (lx sd (t + 1).toNat))), (0, .ref (a (0))), (1, .int (iI (n))), (2, .int (iI (sd)))]) C 1 dX5_lots_168 rfl (by omega) (by decide) rfl ?_
                refine v_goto (tgt := 54) C dX5_lots_171 (by decide) ?_
                exact ih54 (t + 1) (by omega) (by omega)
              · skip
                refine v_if_ne (tgt := 151) C dX5_lots_112 (by decide) (by decide) (fun _ => ?_) (fun h9 => absurd h9 (by decide))
                refine v_aload_n C 2 dX5_lots_151 rfl ?_
                refine v_getf C (by omega) (by omega) ct_mod rfl 5 (by decide) wf25 hinX5 rfl dX5_lots_152 ?_
                refine v_iconst C dX5_lots_155 ?_
                refine v_iaload C (by omega) (by omega) ct_mnow (by omega) (by omega) (by decide) dX5_lots_156 ?_
                refine v_st (st' := [.int (iI ((lF (g 6) sd t.toNat) 3))]) (by rw [ru_at]) ?_
                refine v_sipush C dX5_lots_157 (by decide) ?_
                refine v_icmp_ge (tgt := 168) C dX5_lots_160 (by decide) (by omega) (by omega) (fun c160 => ?_) (fun c160 => ?_)
                · skip
                  refine v_g (g' := (ru g 6 (lF (g 6) sd (t + 1).toNat))) (by first | (exfalso; omega) | ((first | rw [ru_ru, ru_at] | skip); rw [lF_s (by omega)]; unfold lot1; rw [hok.2.1]; repeat (first | rfl | rw [if_pos (by omega)] | rw [if_neg (by omega)]))) ?_
                  refine v_iinc (z' := t + 1) (lv' := [(5, .int (iI (t + 1))), (3, .long (lI (lx sd (t + 1).toNat))), (0, .ref (a (0))), (1, .int (iI (n))), (2, .int (iI (sd)))]) C 1 dX5_lots_168 rfl (by omega) (by decide) rfl ?_
                  refine v_goto (tgt := 54) C dX5_lots_171 (by decide) ?_
                  exact ih54 (t + 1) (by omega) (by omega)
                · skip
                  refine v_aload_n C 2 dX5_lots_163 rfl ?_
                  refine v_iconst C dX5_lots_164 ?_
                  refine v_cV_v C (As := [.int (iI (0))]) (rest := []) (c_X5_does l D yc t1 t2 a A (ru g 6 (lF (g 6) sd t.toNat)) 0 (by omega) (by rw [ru_at]; omega)) (cwV 1 C.hts gX5_lots_X5_does rfl rfl rfl (by decide +kernel) ⟨by decide, by decide⟩) (fun H hP => va_recv C.hK hP (ci := 5) (q0 := (0 : Int).toNat) rfl (wo_is (by omega) (by omega) ct_mod)) rfl rfl (Nat.le_of_ble_eq_true rfl) dX5_lots_165 ?_
                  intro g9 h9
                  rw [h9]
                  clear h9 g9
                  try dsimp only
                  refine v_g (g' := (ru g 6 (lF (g 6) sd (t + 1).toNat))) (by first | (exfalso; omega) | ((first | rw [ru_ru, ru_at] | skip); rw [lF_s (by omega)]; unfold lot1; rw [hok.2.1]; repeat (first | rfl | rw [if_pos (by omega)] | rw [if_neg (by omega)]))) ?_
                  refine v_iinc (z' := t + 1) (lv' := [(5, .int (iI (t + 1))), (3, .long (lI (lx sd (t + 1).toNat))), (0, .ref (a (0))), (1, .int (iI (n))), (2, .int (iI (sd)))]) C 1 dX5_lots_168 rfl (by omega) (by decide) rfl ?_
                  refine v_goto (tgt := 54) C dX5_lots_171 (by decide) ?_
                  exact ih54 (t + 1) (by omega) (by omega)
            · skip
              refine v_if_ne (tgt := 103) C dX5_lots_77 (by decide) (by decide) (fun h9 => absurd h9 (by decide)) (fun _ => ?_)
              refine v_aload_n C 2 dX5_lots_80 rfl ?_
              refine v_iconst C dX5_lots_81 ?_
              refine v_lload_n C 0 dX5_lots_82 rfl ?_
              refine v_ldc2 (z := 8) C wk215 dX5_lots_83 (by decide) ?_
              refine v_ldivR (z := (lI ((lx sd (t + 1).toNat) / 8))) C dX5_lots_86 (lI_ne (by omega) (by omega)) (lI_div (by omega) (by omega) (by omega) (by omega)) ?_
              refine v_aload_n C 2 dX5_lots_87 rfl ?_
              refine v_getf C (by omega) (by omega) ct_mod rfl 5 (by decide) wf25 hinX5 rfl dX5_lots_88 ?_
              refine v_iconst C dX5_lots_91 ?_
              refine v_iaload C (by omega) (by omega) ct_mnow (by omega) (by omega) (by decide) dX5_lots_92 ?_
              refine v_st (st' := [.int (iI (g 6 0)), .long (lI ((lx sd (t + 1).toNat) / 8)), .int (iI (1)), .ref (a (0))]) (by rw [ru_at, hok.2.1]) ?_
              refine v_i2l C dX5_lots_93 (by omega) ?_
              refine v_lremR (z := (lI ((lx sd (t + 1).toNat) / 8 % g 6 0))) C dX5_lots_94 (lI_ne (by omega) (by omega)) (lI_rem (by omega) (by omega) (by omega) (by omega)) ?_
              refine v_l2i C dX5_lots_95 ?_
              refine v_iadd C dX5_lots_96 ?_
              refine v_cV_v C (As := [.int (iI (1 + ((lx sd (t + 1).toNat) / 8 % g 6 0)))]) (rest := []) (c_X5_does l D yc t1 t2 a A (ru g 6 (lF (g 6) sd t.toNat)) (1 + ((lx sd (t + 1).toNat) / 8 % g 6 0)) (by omega) (by rw [ru_at]; omega)) (cwV 1 C.hts gX5_lots_X5_does rfl rfl rfl (by decide +kernel) ⟨by decide, by decide⟩) (fun H hP => va_recv C.hK hP (ci := 5) (q0 := (0 : Int).toNat) rfl (wo_is (by omega) (by omega) ct_mod)) rfl rfl (Nat.le_of_ble_eq_true rfl) dX5_lots_97 ?_
              intro g9 h9
              rw [h9]
              clear h9 g9
              try dsimp only
              refine v_goto (tgt := 168) C dX5_lots_100 (by decide) ?_
              refine v_g (g' := (ru g 6 (lF (g 6) sd (t + 1).toNat))) (by first | (exfalso; omega) | ((first | rw [ru_ru, ru_at] | skip); rw [lF_s (by omega)]; unfold lot1; rw [hok.2.1]; repeat (first | rfl | rw [if_pos (by omega)] | rw [if_neg (by omega)]))) ?_
              refine v_iinc (z' := t + 1) (lv' := [(5, .int (iI (t + 1))), (3, .long (lI (lx sd (t + 1).toNat))), (0, .ref (a (0))), (1, .int (iI (n))), (2, .int (iI (sd)))]) C 1 dX5_lots_168 rfl (by omega) (by decide) rfl ?_
              refine v_goto (tgt := 54) C dX5_lots_171 (by decide) ?_
              exact ih54 (t + 1) (by omega) (by omega)
            · skip
              refine v_if_ne (tgt := 103) C dX5_lots_77 (by decide) (by decide) (fun _ => ?_) (fun h9 => absurd h9 (by decide))
              refine v_lload_n C 0 dX5_lots_103 rfl ?_
              refine v_ldc2 (z := 3) C wk213 dX5_lots_104 (by decide) ?_
              refine v_lremR (z := (lI ((lx sd (t + 1).toNat) % 3))) C dX5_lots_107 (lI_ne (by omega) (by omega)) (lI_rem (by omega) (by omega) (by omega) (by omega)) ?_
              refine v_ldc2 (z := 2) C wk194 dX5_lots_108 (by decide) ?_
              refine v_lcmp C (by omega) (by omega) dX5_lots_111 (fun h_7 => ?_) (fun h_8 => ?_) (fun h_9 => ?_)
              · skip
                refine v_if_ne (tgt := 151) C dX5_lots_112 (by decide) (by decide) (fun _ => ?_) (fun h9 => absurd h9 (by decide))
                refine v_aload_n C 2 dX5_lots_151 rfl ?_
                refine v_getf C (by omega) (by omega) ct_mod rfl 5 (by decide) wf25 hinX5 rfl dX5_lots_152 ?_
                refine v_iconst C dX5_lots_155 ?_
                refine v_iaload C (by omega) (by omega) ct_mnow (by omega) (by omega) (by decide) dX5_lots_156 ?_
                refine v_st (st' := [.int (iI ((lF (g 6) sd t.toNat) 3))]) (by rw [ru_at]) ?_
                refine v_sipush C dX5_lots_157 (by decide) ?_
                refine v_icmp_ge (tgt := 168) C dX5_lots_160 (by decide) (by omega) (by omega) (fun c160 => ?_) (fun c160 => ?_)
                · skip
                  refine v_g (g' := (ru g 6 (lF (g 6) sd (t + 1).toNat))) (by first | (exfalso; omega) | ((first | rw [ru_ru, ru_at] | skip); rw [lF_s (by omega)]; unfold lot1; rw [hok.2.1]; repeat (first | rfl | rw [if_pos (by omega)] | rw [if_neg (by omega)]))) ?_
                  refine v_iinc (z' := t + 1) (lv' := [(5, .int (iI (t + 1))), (3, .long (lI (lx sd (t + 1).toNat))), (0, .ref (a (0))), (1, .int (iI (n))), (2, .int (iI (sd)))]) C 1 dX5_lots_168 rfl (by omega) (by decide) rfl ?_
                  refine v_goto (tgt := 54) C dX5_lots_171 (by decide) ?_
                  exact ih54 (t + 1) (by omega) (by omega)
                · skip
                  refine v_aload_n C 2 dX5_lots_163 rfl ?_
                  refine v_iconst C dX5_lots_164 ?_
                  refine v_cV_v C (As := [.int (iI (0))]) (rest := []) (c_X5_does l D yc t1 t2 a A (ru g 6 (lF (g 6) sd t.toNat)) 0 (by omega) (by rw [ru_at]; omega)) (cwV 1 C.hts gX5_lots_X5_does rfl rfl rfl (by decide +kernel) ⟨by decide, by decide⟩) (fun H hP => va_recv C.hK hP (ci := 5) (q0 := (0 : Int).toNat) rfl (wo_is (by omega) (by omega) ct_mod)) rfl rfl (Nat.le_of_ble_eq_true rfl) dX5_lots_165 ?_
                  intro g9 h9
                  rw [h9]
                  clear h9 g9
                  try dsimp only
                  refine v_g (g' := (ru g 6 (lF (g 6) sd (t + 1).toNat))) (by first | (exfalso; omega) | ((first | rw [ru_ru, ru_at] | skip); rw [lF_s (by omega)]; unfold lot1; rw [hok.2.1]; repeat (first | rfl | rw [if_pos (by omega)] | rw [if_neg (by omega)]))) ?_
                  refine v_iinc (z' := t + 1) (lv' := [(5, .int (iI (t + 1))), (3, .long (lI (lx sd (t + 1).toNat))), (0, .ref (a (0))), (1, .int (iI (n))), (2, .int (iI (sd)))]) C 1 dX5_lots_168 rfl (by omega) (by decide) rfl ?_
                  refine v_goto (tgt := 54) C dX5_lots_171 (by decide) ?_
                  exact ih54 (t + 1) (by omega) (by omega)
              · skip
                refine v_if_ne (tgt := 151) C dX5_lots_112 (by decide) (by decide) (fun h9 => absurd h9 (by decide)) (fun _ => ?_)
                refine v_aload_n C 2 dX5_lots_115 rfl ?_
                refine v_bipush C dX5_lots_116 (by decide) ?_
                refine v_bipush C dX5_lots_118 (by decide) ?_
                refine v_lload_n C 0 dX5_lots_120 rfl ?_
                refine v_ldc2 (z := 16) C wk217 dX5_lots_121 (by decide) ?_
                refine v_ldivR (z := (lI ((lx sd (t + 1).toNat) / 16))) C dX5_lots_124 (lI_ne (by omega) (by omega)) (lI_div (by omega) (by omega) (by omega) (by omega)) ?_
                refine v_ldc2 (z := 2) C wk194 dX5_lots_125 (by decide) ?_
                refine v_lremR (z := (lI ((lx sd (t + 1).toNat) / 16 % 2))) C dX5_lots_128 (lI_ne (by omega) (by omega)) (lI_rem (by omega) (by omega) (by omega) (by omega)) ?_
                refine v_l2i C dX5_lots_129 ?_
                refine v_imul C dX5_lots_130 ?_
                refine v_iadd C dX5_lots_131 ?_
                refine v_lload_n C 0 dX5_lots_132 rfl ?_
                refine v_ldc2 (z := 64) C wk219 dX5_lots_133 (by decide) ?_
                refine v_ldivR (z := (lI ((lx sd (t + 1).toNat) / 64))) C dX5_lots_136 (lI_ne (by omega) (by omega)) (lI_div (by omega) (by omega) (by omega) (by omega)) ?_
                refine v_ldc2 (z := 9) C wk221 dX5_lots_137 (by decide) ?_
                refine v_lremR (z := (lI ((lx sd (t + 1).toNat) / 64 % 9))) C dX5_lots_140 (lI_ne (by omega) (by omega)) (lI_rem (by omega) (by omega) (by omega) (by omega)) ?_
                refine v_l2i C dX5_lots_141 ?_
                refine v_iadd C dX5_lots_142 ?_
                refine v_iconst C dX5_lots_143 ?_
                refine v_iadd C dX5_lots_144 ?_
                refine v_cV_v C (As := [.int (iI (((100 + (100 * ((lx sd (t + 1).toNat) / 16 % 2))) + ((lx sd (t + 1).toNat) / 64 % 9)) + 1))]) (rest := []) (c_X5_does l D yc t1 t2 a A (ru g 6 (lF (g 6) sd t.toNat)) (((100 + (100 * ((lx sd (t + 1).toNat) / 16 % 2))) + ((lx sd (t + 1).toNat) / 64 % 9)) + 1) (by omega) (by rw [ru_at]; omega)) (cwV 1 C.hts gX5_lots_X5_does rfl rfl rfl (by decide +kernel) ⟨by decide, by decide⟩) (fun H hP => va_recv C.hK hP (ci := 5) (q0 := (0 : Int).toNat) rfl (wo_is (by omega) (by omega) ct_mod)) rfl rfl (Nat.le_of_ble_eq_true rfl) dX5_lots_145 ?_
                intro g9 h9
                rw [h9]
                clear h9 g9
                try dsimp only
                refine v_goto (tgt := 168) C dX5_lots_148 (by decide) ?_
                refine v_g (g' := (ru g 6 (lF (g 6) sd (t + 1).toNat))) (by first | (exfalso; omega) | ((first | rw [ru_ru, ru_at] | skip); rw [lF_s (by omega)]; unfold lot1; rw [hok.2.1]; repeat (first | rfl | rw [if_pos (by omega)] | rw [if_neg (by omega)]))) ?_
                refine v_iinc (z' := t + 1) (lv' := [(5, .int (iI (t + 1))), (3, .long (lI (lx sd (t + 1).toNat))), (0, .ref (a (0))), (1, .int (iI (n))), (2, .int (iI (sd)))]) C 1 dX5_lots_168 rfl (by omega) (by decide) rfl ?_
                refine v_goto (tgt := 54) C dX5_lots_171 (by decide) ?_
                exact ih54 (t + 1) (by omega) (by omega)
              · skip
                refine v_if_ne (tgt := 151) C dX5_lots_112 (by decide) (by decide) (fun _ => ?_) (fun h9 => absurd h9 (by decide))
                refine v_aload_n C 2 dX5_lots_151 rfl ?_
                refine v_getf C (by omega) (by omega) ct_mod rfl 5 (by decide) wf25 hinX5 rfl dX5_lots_152 ?_
                refine v_iconst C dX5_lots_155 ?_
                refine v_iaload C (by omega) (by omega) ct_mnow (by omega) (by omega) (by decide) dX5_lots_156 ?_
                refine v_st (st' := [.int (iI ((lF (g 6) sd t.toNat) 3))]) (by rw [ru_at]) ?_
                refine v_sipush C dX5_lots_157 (by decide) ?_
                refine v_icmp_ge (tgt := 168) C dX5_lots_160 (by decide) (by omega) (by omega) (fun c160 => ?_) (fun c160 => ?_)
                · skip
                  refine v_g (g' := (ru g 6 (lF (g 6) sd (t + 1).toNat))) (by first | (exfalso; omega) | ((first | rw [ru_ru, ru_at] | skip); rw [lF_s (by omega)]; unfold lot1; rw [hok.2.1]; repeat (first | rfl | rw [if_pos (by omega)] | rw [if_neg (by omega)]))) ?_
                  refine v_iinc (z' := t + 1) (lv' := [(5, .int (iI (t + 1))), (3, .long (lI (lx sd (t + 1).toNat))), (0, .ref (a (0))), (1, .int (iI (n))), (2, .int (iI (sd)))]) C 1 dX5_lots_168 rfl (by omega) (by decide) rfl ?_
                  refine v_goto (tgt := 54) C dX5_lots_171 (by decide) ?_
                  exact ih54 (t + 1) (by omega) (by omega)
                · skip
                  refine v_aload_n C 2 dX5_lots_163 rfl ?_
                  refine v_iconst C dX5_lots_164 ?_
                  refine v_cV_v C (As := [.int (iI (0))]) (rest := []) (c_X5_does l D yc t1 t2 a A (ru g 6 (lF (g 6) sd t.toNat)) 0 (by omega) (by rw [ru_at]; omega)) (cwV 1 C.hts gX5_lots_X5_does rfl rfl rfl (by decide +kernel) ⟨by decide, by decide⟩) (fun H hP => va_recv C.hK hP (ci := 5) (q0 := (0 : Int).toNat) rfl (wo_is (by omega) (by omega) ct_mod)) rfl rfl (Nat.le_of_ble_eq_true rfl) dX5_lots_165 ?_
                  intro g9 h9
                  rw [h9]
                  clear h9 g9
                  try dsimp only
                  refine v_g (g' := (ru g 6 (lF (g 6) sd (t + 1).toNat))) (by first | (exfalso; omega) | ((first | rw [ru_ru, ru_at] | skip); rw [lF_s (by omega)]; unfold lot1; rw [hok.2.1]; repeat (first | rfl | rw [if_pos (by omega)] | rw [if_neg (by omega)]))) ?_
                  refine v_iinc (z' := t + 1) (lv' := [(5, .int (iI (t + 1))), (3, .long (lI (lx sd (t + 1).toNat))), (0, .ref (a (0))), (1, .int (iI (n))), (2, .int (iI (sd)))]) C 1 dX5_lots_168 rfl (by omega) (by decide) rfl ?_
                  refine v_goto (tgt := 54) C dX5_lots_171 (by decide) ?_
                  exact ih54 (t + 1) (by omega) (by omega)
        · skip
          refine v_bipush C dX5_lots_45 (by decide) ?_
          exact v_ret_i C rfl dX5_lots_47 ⟨(by repeat (first | rfl | rw [if_pos (by omega)] | rw [if_neg (by omega)])), (by repeat (first | rfl | rw [if_pos (by omega)] | rw [if_neg (by omega)]))⟩
      · skip
        refine v_bipush C dX5_lots_29 (by decide) ?_
        exact v_ret_i C rfl dX5_lots_31 ⟨(by repeat (first | rfl | rw [if_pos (by omega)] | rw [if_neg (by omega)])), (by repeat (first | rfl | rw [if_pos (by omega)] | rw [if_neg (by omega)]))⟩
    · skip
      refine v_iconst C dX5_lots_20 ?_
      exact v_ret_i C rfl dX5_lots_21 ⟨(by repeat (first | rfl | rw [if_pos (by omega)] | rw [if_neg (by omega)])), (by repeat (first | rfl | rw [if_pos (by omega)] | rw [if_neg (by omega)]))⟩

set_option maxRecDepth 100000 in
set_option maxHeartbeats 4000000 in
theorem c_X5_asked (l : Launch) (D : va_G) (yc : Nat → ClassId) (t1 t2 : Nat) (a : Int → Nat) (A : Nat → Prop) (g : Mm)   : Ci l yX5_asked wsX5_asked { frames := 0, cells := 0, slots := 0, locals := 0 } D yc t1 t2 A (mw a yc) [.ref (a (0))] g (fun r9 g' => r9 = (iI (g 0 11)) ∧ g' = g) := by
  refine start_i (cc := cX5_asked) (nL := 1) (ret := (some .int)) (own := RX5) (by decide +kernel) rfl rfl (Nat.le_of_ble_eq_true rfl) ?_
  intro p e s m9 below meth c9 C
  have wf52 : Cond.fieldLink RX5 52 (TX5 11).1 (TX5 11).2.1 (TX5 11).2.2.1 ∈ wsX5_asked := by decide +kernel
  have hinX5 : ∀ w ∈ u_ws RX5 TX5 17, w ∈ wsX5_asked := by decide +kernel
  refine v_lv (lv' := [(0, .ref (a (0)))]) rfl ?_
  refine v_aload_n C 0 dX5_asked_0 rfl ?_
  refine v_getf C (by omega) (by omega) ct_mod rfl 11 (by decide) wf52 hinX5 rfl dX5_asked_1 ?_
  exact v_ret_i C rfl dX5_asked_4 ⟨rfl, rfl⟩

set_option maxRecDepth 100000 in
set_option maxHeartbeats 4000000 in
theorem c_X5_finding (l : Launch) (D : va_G) (yc : Nat → ClassId) (t1 t2 : Nat) (a : Int → Nat) (A : Nat → Prop) (g : Mm)   : Ci l yX5_finding wsX5_finding { frames := 0, cells := 0, slots := 0, locals := 0 } D yc t1 t2 A (mw a yc) [.ref (a (0))] g (fun r9 g' => r9 = (iI (g 0 10)) ∧ g' = g) := by
  refine start_i (cc := cX5_finding) (nL := 1) (ret := (some .int)) (own := RX5) (by decide +kernel) rfl rfl (Nat.le_of_ble_eq_true rfl) ?_
  intro p e s m9 below meth c9 C
  have wf48 : Cond.fieldLink RX5 48 (TX5 10).1 (TX5 10).2.1 (TX5 10).2.2.1 ∈ wsX5_finding := by decide +kernel
  have hinX5 : ∀ w ∈ u_ws RX5 TX5 17, w ∈ wsX5_finding := by decide +kernel
  refine v_lv (lv' := [(0, .ref (a (0)))]) rfl ?_
  refine v_aload_n C 0 dX5_finding_0 rfl ?_
  refine v_getf C (by omega) (by omega) ct_mod rfl 10 (by decide) wf48 hinX5 rfl dX5_finding_1 ?_
  exact v_ret_i C rfl dX5_finding_4 ⟨rfl, rfl⟩

set_option maxRecDepth 100000 in
set_option maxHeartbeats 4000000 in
theorem c_X5_upper (l : Launch) (D : va_G) (yc : Nat → ClassId) (t1 t2 : Nat) (a : Int → Nat) (A : Nat → Prop) (g : Mm)   : Cl l yX5_upper wsX5_upper { frames := 0, cells := 0, slots := 0, locals := 0 } D yc t1 t2 A (mw a yc) [.ref (a (0))] g (fun r9 g' => r9 = (lI (g 0 12)) ∧ g' = g) := by
  refine start_l (cc := cX5_upper) (nL := 1) (ret := (some .long)) (own := RX5) (by decide +kernel) rfl rfl (Nat.le_of_ble_eq_true rfl) ?_
  intro p e s m9 below meth c9 C
  have wf55 : Cond.fieldLink RX5 55 (TX5 12).1 (TX5 12).2.1 (TX5 12).2.2.1 ∈ wsX5_upper := by decide +kernel
  have hinX5 : ∀ w ∈ u_ws RX5 TX5 17, w ∈ wsX5_upper := by decide +kernel
  refine v_lv (lv' := [(0, .ref (a (0)))]) rfl ?_
  refine v_aload_n C 0 dX5_upper_0 rfl ?_
  refine v_getf C (by omega) (by omega) ct_mod rfl 12 (by decide) wf55 hinX5 rfl dX5_upper_1 ?_
  exact v_ret_l C rfl dX5_upper_4 ⟨rfl, rfl⟩

set_option maxRecDepth 100000 in
set_option maxHeartbeats 4000000 in
theorem c_X5_lower (l : Launch) (D : va_G) (yc : Nat → ClassId) (t1 t2 : Nat) (a : Int → Nat) (A : Nat → Prop) (g : Mm)   : Cl l yX5_lower wsX5_lower { frames := 0, cells := 0, slots := 0, locals := 0 } D yc t1 t2 A (mw a yc) [.ref (a (0))] g (fun r9 g' => r9 = (lI (g 0 13)) ∧ g' = g) := by
  refine start_l (cc := cX5_lower) (nL := 1) (ret := (some .long)) (own := RX5) (by decide +kernel) rfl rfl (Nat.le_of_ble_eq_true rfl) ?_
  intro p e s m9 below meth c9 C
  have wf44 : Cond.fieldLink RX5 44 (TX5 13).1 (TX5 13).2.1 (TX5 13).2.2.1 ∈ wsX5_lower := by decide +kernel
  have hinX5 : ∀ w ∈ u_ws RX5 TX5 17, w ∈ wsX5_lower := by decide +kernel
  refine v_lv (lv' := [(0, .ref (a (0)))]) rfl ?_
  refine v_aload_n C 0 dX5_lower_0 rfl ?_
  refine v_getf C (by omega) (by omega) ct_mod rfl 13 (by decide) wf44 hinX5 rfl dX5_lower_1 ?_
  exact v_ret_l C rfl dX5_lower_4 ⟨rfl, rfl⟩

set_option maxRecDepth 100000 in
set_option maxHeartbeats 4000000 in
theorem c_X5_findings (l : Launch) (D : va_G) (yc : Nat → ClassId) (t1 t2 : Nat) (a : Int → Nat) (A : Nat → Prop) (g : Mm) (f : Int) (hf : R32 f) : Ci l yX5_findings wsX5_findings { frames := 1, cells := 0, slots := 0, locals := 22 } D yc t1 t2 A (mw a yc) [.ref (a (0)), .int (iI (f))] g (fun r9 g' => r9 = (iI (if f < 1 ∨ 5 < f then -1 else g 10 f)) ∧ g' = g) := by
  refine start_i (cc := cX5_findings) (nL := 2) (ret := (some .int)) (own := RX5) (by decide +kernel) rfl rfl (Nat.le_of_ble_eq_true rfl) ?_
  intro p e s m9 below meth c9 C
  have wf38 : Cond.fieldLink RX5 38 (TX5 9).1 (TX5 9).2.1 (TX5 9).2.2.1 ∈ wsX5_findings := by decide +kernel
  have hinX5 : ∀ w ∈ u_ws RX5 TX5 17, w ∈ wsX5_findings := by decide +kernel
  refine v_lv (lv' := [(0, .ref (a (0))), (1, .int (iI (f)))]) rfl ?_
  refine v_iload_n C 1 dX5_findings_0 rfl ?_
  refine v_iconst C dX5_findings_1 ?_
  refine v_iconst C dX5_findings_2 ?_
  refine v_cS_i C (As := [.int (iI (f)), .int (iI (1)), .int (iI (5))]) (rest := []) (c_X5_in l D yc t1 t2 A (mw a yc) g f 1 5 (by omega) (by omega) (by omega)) (va_cwS 3 C.hts gX5_findings_X5_in rfl rfl rfl (by decide +kernel) ⟨by decide, by decide⟩) rfl rfl (Nat.le_of_ble_eq_true rfl) dX5_findings_3 ?_
  intro r9 g9 h9
  rw [h9.1, h9.2]
  clear h9 g9 r9
  try dsimp only
  refine v_ifb_eq (tgt := 18) C dX5_findings_6 (by decide) (fun c6 => ?_) (fun c6 => ?_)
  · skip
    refine v_iconst C dX5_findings_18 ?_
    exact v_ret_i C rfl dX5_findings_19 ⟨(by repeat (first | rfl | rw [if_pos (by omega)] | rw [if_neg (by omega)])), rfl⟩
  · skip
    refine v_aload_n C 0 dX5_findings_9 rfl ?_
    refine v_getf C (by omega) (by omega) ct_mod rfl 9 (by decide) wf38 hinX5 rfl dX5_findings_10 ?_
    refine v_iload_n C 1 dX5_findings_13 rfl ?_
    refine v_iaload C (by omega) (by omega) ct_mfound (by omega) (by omega) (by decide) dX5_findings_14 ?_
    refine v_goto (tgt := 19) C dX5_findings_15 (by decide) ?_
    exact v_ret_i C rfl dX5_findings_19 ⟨(by repeat (first | rfl | rw [if_pos (by omega)] | rw [if_neg (by omega)])), rfl⟩

set_option maxRecDepth 100000 in
set_option maxHeartbeats 4000000 in
theorem c_X5_count (l : Launch) (D : va_G) (yc : Nat → ClassId) (t1 t2 : Nat) (a : Int → Nat) (A : Nat → Prop) (g : Mm) (k : Int) (hk : R32 k) (HM : MI g) : Ci l yX5_count wsX5_count { frames := 2, cells := 0, slots := 0, locals := 44 } D yc t1 t2 A (mw a yc) [.ref (a (0)), .int (iI (k))] g (fun r9 g' => r9 = (iI (cn (g 6) (g 1) (g 4) (g 9) k)) ∧ g' = g) := by
  refine start_i (cc := cX5_count) (nL := 4) (ret := (some .int)) (own := RX5) (by decide +kernel) rfl rfl (Nat.le_of_ble_eq_true rfl) ?_
  intro p e s m9 below meth c9 C
  have wf25 : Cond.fieldLink RX5 25 (TX5 5).1 (TX5 5).2.1 (TX5 5).2.2.1 ∈ wsX5_count := by decide +kernel
  have hinX5 : ∀ w ∈ u_ws RX5 TX5 17, w ∈ wsX5_count := by decide +kernel
  have wf7 : Cond.fieldLink RX5 7 (TX5 0).1 (TX5 0).2.1 (TX5 0).2.2.1 ∈ wsX5_count := by decide +kernel
  have wf19 : Cond.fieldLink RX5 19 (TX5 3).1 (TX5 3).2.1 (TX5 3).2.2.1 ∈ wsX5_count := by decide +kernel
  have wf34 : Cond.fieldLink RX5 34 (TX5 8).1 (TX5 8).2.1 (TX5 8).2.2.1 ∈ wsX5_count := by decide +kernel
  have HI := HM.F
  have hn := HI.n
  refine v_lv (lv' := [(0, .ref (a (0))), (1, .int (iI (k)))]) rfl ?_
  refine v_iconst C dX5_count_0 ?_
  refine v_istore_n (lv' := [(2, .int (iI (0))), (0, .ref (a (0))), (1, .int (iI (k)))]) C dX5_count_1 (by decide) rfl ?_
  refine v_iload_n C 2 dX5_count_2 rfl ?_
  rcases (show k = 0 ∨ k = 1 ∨ k = 2 ∨ k = 3 ∨ k = 4 ∨ k = 5 ∨ k = 6 ∨ k = 7 ∨ k = 8 ∨ k = 9 ∨ (k < 0 ∨ 9 < k) by omega) with c3 | c3 | c3 | c3 | c3 | c3 | c3 | c3 | c3 | c3 | c3
  · refine v_tin (off := 53) (tgt := 56) C 0 dX5_count_3 c3 (by decide) (by decide) (by decide) rfl (by decide) ?_
    refine v_aload_n C 1 dX5_count_56 rfl ?_
    refine v_getf C (by omega) (by omega) ct_mod rfl 5 (by decide) wf25 hinX5 rfl dX5_count_57 ?_
    refine v_iconst C dX5_count_60 ?_
    refine v_iaload C (by omega) (by omega) ct_mnow (by omega) (by omega) (by decide) dX5_count_61 ?_
    exact v_ret_i C rfl dX5_count_62 ⟨(by unfold cn; repeat (first | rfl | rw [if_pos (by omega)] | rw [if_neg (by omega)])), rfl⟩
  · refine v_tin (off := 60) (tgt := 63) C 1 dX5_count_3 c3 (by decide) (by decide) (by decide) rfl (by decide) ?_
    refine v_aload_n C 1 dX5_count_63 rfl ?_
    refine v_getf C (by omega) (by omega) ct_mod rfl 5 (by decide) wf25 hinX5 rfl dX5_count_64 ?_
    refine v_iconst C dX5_count_67 ?_
    refine v_iaload C (by omega) (by omega) ct_mnow (by omega) (by omega) (by decide) dX5_count_68 ?_
    exact v_ret_i C rfl dX5_count_69 ⟨(by unfold cn; repeat (first | rfl | rw [if_pos (by omega)] | rw [if_neg (by omega)])), rfl⟩
  · refine v_tin (off := 67) (tgt := 70) C 2 dX5_count_3 c3 (by decide) (by decide) (by decide) rfl (by decide) ?_
    refine v_aload_n C 1 dX5_count_70 rfl ?_
    refine v_getf C (by omega) (by omega) ct_mod rfl 5 (by decide) wf25 hinX5 rfl dX5_count_71 ?_
    refine v_iconst C dX5_count_74 ?_
    refine v_iaload C (by omega) (by omega) ct_mnow (by omega) (by omega) (by decide) dX5_count_75 ?_
    exact v_ret_i C rfl dX5_count_76 ⟨(by unfold cn; repeat (first | rfl | rw [if_pos (by omega)] | rw [if_neg (by omega)])), rfl⟩
  · refine v_tin (off := 74) (tgt := 77) C 3 dX5_count_3 c3 (by decide) (by decide) (by decide) rfl (by decide) ?_
    refine v_aload_n C 1 dX5_count_77 rfl ?_
    refine v_getf C (by omega) (by omega) ct_mod rfl 5 (by decide) wf25 hinX5 rfl dX5_count_78 ?_
    refine v_iconst C dX5_count_81 ?_
    refine v_iaload C (by omega) (by omega) ct_mnow (by omega) (by omega) (by decide) dX5_count_82 ?_
    exact v_ret_i C rfl dX5_count_83 ⟨(by unfold cn; repeat (first | rfl | rw [if_pos (by omega)] | rw [if_neg (by omega)])), rfl⟩
  · refine v_tin (off := 81) (tgt := 84) C 4 dX5_count_3 c3 (by decide) (by decide) (by decide) rfl (by decide) ?_
    refine v_aload_n C 1 dX5_count_84 rfl ?_
    refine v_getf C (by omega) (by omega) ct_mod rfl 5 (by decide) wf25 hinX5 rfl dX5_count_85 ?_
    refine v_iconst C dX5_count_88 ?_
    refine v_iaload C (by omega) (by omega) ct_mnow (by omega) (by omega) (by decide) dX5_count_89 ?_
    exact v_ret_i C rfl dX5_count_90 ⟨(by unfold cn; repeat (first | rfl | rw [if_pos (by omega)] | rw [if_neg (by omega)])), rfl⟩
  · refine v_tin (off := 88) (tgt := 91) C 5 dX5_count_3 c3 (by decide) (by decide) (by decide) rfl (by decide) ?_
    refine v_aload_n C 1 dX5_count_91 rfl ?_
    refine v_getf C (by omega) (by omega) ct_mod rfl 5 (by decide) wf25 hinX5 rfl dX5_count_92 ?_
    refine v_iconst C dX5_count_95 ?_
    refine v_iaload C (by omega) (by omega) ct_mnow (by omega) (by omega) (by decide) dX5_count_96 ?_
    refine v_sipush C dX5_count_97 (by decide) ?_
    refine v_iadd C dX5_count_100 ?_
    exact v_ret_i C rfl dX5_count_101 ⟨(by unfold cn; repeat (first | rfl | rw [if_pos (by omega)] | rw [if_neg (by omega)])), rfl⟩
  · refine v_tin (off := 99) (tgt := 102) C 6 dX5_count_3 c3 (by decide) (by decide) (by decide) rfl (by decide) ?_
    refine v_iconst C dX5_count_102 ?_
    refine v_istore_n (lv' := [(3, .int (iI (0))), (2, .int (iI (0))), (0, .ref (a (0))), (1, .int (iI (k)))]) C dX5_count_103 (by decide) rfl ?_
    refine v_lv (congrArg (fun x9 => ([(3, .int (iI x9)), (2, .int (iI (0))), (0, .ref (a (0))), (1, .int (iI (k)))] : List (Nat × Value))) (show (0) = (((0 : Int))) by first | rfl | omega | (simp; done))) ?_
    refine v_lv (congrArg (fun x9 => ([(3, .int (iI (((0 : Int))))), (2, .int (iI x9)), (0, .ref (a (0))), (1, .int (iI (k)))] : List (Nat × Value))) (show (0) = (sI (fun i => if g 6 (20 + 3 * i) = 3 ∨ g 6 (20 + 3 * i) = 5 then 1 else 0) ((0 : Int))) by first | rfl | omega | (simp; done))) ?_
    refine v_loop1 (fun (t : Int) => (g 6 0 - t).toNat) (fun (t : Int) => 0 ≤ t ∧ t ≤ g 6 0) (fun (t : Int) => [(3, .int (iI (t))), (2, .int (iI (sI (fun i => if g 6 (20 + 3 * i) = 3 ∨ g 6 (20 + 3 * i) = 5 then 1 else 0) t))), (0, .ref (a (0))), (1, .int (iI (k)))]) (fun (t : Int) => g) ?_ 0 (by omega)
    intro t hI104 ih104
    try dsimp only at ih104 ⊢
    refine v_iload_n C 0 dX5_count_104 rfl ?_
    refine v_aload_n C 2 dX5_count_105 rfl ?_
    refine v_getf C (by omega) (by omega) ct_mod rfl 5 (by decide) wf25 hinX5 rfl dX5_count_106 ?_
    refine v_iconst C dX5_count_109 ?_
    refine v_iaload C (by omega) (by omega) ct_mnow (by omega) (by omega) (by decide) dX5_count_110 ?_
    refine v_icmp_ge (tgt := 137) C dX5_count_111 (by decide) (by omega) (by omega) (fun c111 => ?_) (fun c111 => ?_)
    · skip
      refine v_iload_n C 1 dX5_count_137 rfl ?_
      exact v_ret_i C rfl dX5_count_138 ⟨(by rw [show t = g 6 0 by omega]; unfold cn bl thr kpt; repeat (first | rfl | rw [if_pos (by omega)] | rw [if_neg (by omega)])), rfl⟩
    · skip
      have hb := HI.b (i := t) (by omega) (by omega)
      refine v_iload_n C 1 dX5_count_114 rfl ?_
      refine v_aload_n C 2 dX5_count_115 rfl ?_
      refine v_iload_n C 0 dX5_count_116 rfl ?_
      refine v_iconst C dX5_count_117 ?_
      refine v_cV_i C (As := [.int (iI (t)), .int (iI (3))]) (rest := [.int (iI (sI (fun i => if g 6 (20 + 3 * i) = 3 ∨ g 6 (20 + 3 * i) = 5 then 1 else 0) t))]) (c_X5_isOf l D yc t1 t2 a A g t 3 (by omega) (by omega) (by omega)) (cwV 2 C.hts gX5_count_X5_isOf rfl rfl rfl (by decide +kernel) ⟨by decide, by decide⟩) (fun H hP => va_recv C.hK hP (ci := 5) (q0 := (0 : Int).toNat) rfl (wo_is (by omega) (by omega) ct_mod)) rfl rfl (Nat.le_of_ble_eq_true rfl) dX5_count_118 ?_
      intro r9 g9 h9
      rw [h9.1, h9.2]
      clear h9 g9 r9
      try dsimp only
      refine v_ifb_eq (tgt := 128) C dX5_count_121 (by decide) (fun c121 => ?_) (fun c121 => ?_)
      · skip
        refine v_iconst C dX5_count_128 ?_
        refine v_iadd C dX5_count_129 ?_
        refine v_istore_n (lv' := [(2, .int (iI ((sI (fun i => if g 6 (20 + 3 * i) = 3 ∨ g 6 (20 + 3 * i) = 5 then 1 else 0) t) + 0))), (3, .int (iI (t))), (0, .ref (a (0))), (1, .int (iI (k)))]) C dX5_count_130 (by decide) rfl ?_
        refine v_iinc (z' := t + 1) (lv' := [(3, .int (iI (t + 1))), (2, .int (iI ((sI (fun i => if g 6 (20 + 3 * i) = 3 ∨ g 6 (20 + 3 * i) = 5 then 1 else 0) t) + 0))), (0, .ref (a (0))), (1, .int (iI (k)))]) C 1 dX5_count_131 rfl (by omega) (by decide) rfl ?_
        refine v_goto (tgt := 104) C dX5_count_134 (by decide) ?_
        refine v_lv (congrArg (fun x9 => ([(3, .int (iI (t + 1))), (2, .int (iI x9)), (0, .ref (a (0))), (1, .int (iI (k)))] : List (Nat × Value))) (show ((sI (fun i => if g 6 (20 + 3 * i) = 3 ∨ g 6 (20 + 3 * i) = 5 then 1 else 0) t) + 0) = (sI (fun i => if g 6 (20 + 3 * i) = 3 ∨ g 6 (20 + 3 * i) = 5 then 1 else 0) (t + 1)) by first | rfl | (rw [sI_s _ (by omega)]; first | rw [if_pos (by omega)] | rw [if_neg (by omega)]))) ?_
        exact ih104 (t + 1) (by omega) (by omega)
      · skip
        refine v_iconst C dX5_count_124 ?_
        refine v_goto (tgt := 129) C dX5_count_125 (by decide) ?_
        refine v_iadd C dX5_count_129 ?_
        refine v_istore_n (lv' := [(2, .int (iI ((sI (fun i => if g 6 (20 + 3 * i) = 3 ∨ g 6 (20 + 3 * i) = 5 then 1 else 0) t) + 1))), (3, .int (iI (t))), (0, .ref (a (0))), (1, .int (iI (k)))]) C dX5_count_130 (by decide) rfl ?_
        refine v_iinc (z' := t + 1) (lv' := [(3, .int (iI (t + 1))), (2, .int (iI ((sI (fun i => if g 6 (20 + 3 * i) = 3 ∨ g 6 (20 + 3 * i) = 5 then 1 else 0) t) + 1))), (0, .ref (a (0))), (1, .int (iI (k)))]) C 1 dX5_count_131 rfl (by omega) (by decide) rfl ?_
        refine v_goto (tgt := 104) C dX5_count_134 (by decide) ?_
        refine v_lv (congrArg (fun x9 => ([(3, .int (iI (t + 1))), (2, .int (iI x9)), (0, .ref (a (0))), (1, .int (iI (k)))] : List (Nat × Value))) (show ((sI (fun i => if g 6 (20 + 3 * i) = 3 ∨ g 6 (20 + 3 * i) = 5 then 1 else 0) t) + 1) = (sI (fun i => if g 6 (20 + 3 * i) = 3 ∨ g 6 (20 + 3 * i) = 5 then 1 else 0) (t + 1)) by first | rfl | (rw [sI_s _ (by omega)]; first | rw [if_pos (by omega)] | rw [if_neg (by omega)]))) ?_
        exact ih104 (t + 1) (by omega) (by omega)
  · refine v_tin (off := 136) (tgt := 139) C 7 dX5_count_3 c3 (by decide) (by decide) (by decide) rfl (by decide) ?_
    refine v_iconst C dX5_count_139 ?_
    refine v_istore_n (lv' := [(3, .int (iI (0))), (2, .int (iI (0))), (0, .ref (a (0))), (1, .int (iI (k)))]) C dX5_count_140 (by decide) rfl ?_
    refine v_lv (congrArg (fun x9 => ([(3, .int (iI x9)), (2, .int (iI (0))), (0, .ref (a (0))), (1, .int (iI (k)))] : List (Nat × Value))) (show (0) = (((0 : Int))) by first | rfl | omega | (simp; done))) ?_
    refine v_lv (congrArg (fun x9 => ([(3, .int (iI (((0 : Int))))), (2, .int (iI x9)), (0, .ref (a (0))), (1, .int (iI (k)))] : List (Nat × Value))) (show (0) = (sI (fun r => if g 1 r < 0 then 0 else 1) ((0 : Int))) by first | rfl | omega | (simp; done))) ?_
    refine v_loop1 (fun (t : Int) => (6 - t).toNat) (fun (t : Int) => 0 ≤ t ∧ t ≤ 6) (fun (t : Int) => [(3, .int (iI (t))), (2, .int (iI (sI (fun r => if g 1 r < 0 then 0 else 1) t))), (0, .ref (a (0))), (1, .int (iI (k)))]) (fun (t : Int) => g) ?_ 0 (by omega)
    intro t hI141 ih141
    try dsimp only at ih141 ⊢
    refine v_iload_n C 0 dX5_count_141 rfl ?_
    refine v_bipush C dX5_count_142 (by decide) ?_
    refine v_icmp_ge (tgt := 170) C dX5_count_144 (by decide) (by omega) (by omega) (fun c144 => ?_) (fun c144 => ?_)
    · skip
      refine v_iload_n C 1 dX5_count_170 rfl ?_
      exact v_ret_i C rfl dX5_count_171 ⟨(by rw [show t = 6 by omega]; unfold cn bl thr kpt; repeat (first | rfl | rw [if_pos (by omega)] | rw [if_neg (by omega)])), rfl⟩
    · skip
      have hs := HM.sz (r := t) (by omega) (by omega)
      refine v_iload_n C 1 dX5_count_147 rfl ?_
      refine v_aload_n C 2 dX5_count_148 rfl ?_
      refine v_getf C (by omega) (by omega) ct_mod rfl 0 (by decide) wf7 hinX5 rfl dX5_count_149 ?_
      refine v_iload_n C 0 dX5_count_152 rfl ?_
      refine v_iaload C (by omega) (by omega) ct_msizes (by omega) (by omega) (by decide) dX5_count_153 ?_
      refine v_if_ge (tgt := 161) C dX5_count_154 (by decide) (by omega) (fun c154 => ?_) (fun c154 => ?_)
      · skip
        refine v_iconst C dX5_count_161 ?_
        refine v_iadd C dX5_count_162 ?_
        refine v_istore_n (lv' := [(2, .int (iI ((sI (fun r => if g 1 r < 0 then 0 else 1) t) + 1))), (3, .int (iI (t))), (0, .ref (a (0))), (1, .int (iI (k)))]) C dX5_count_163 (by decide) rfl ?_
        refine v_iinc (z' := t + 1) (lv' := [(3, .int (iI (t + 1))), (2, .int (iI ((sI (fun r => if g 1 r < 0 then 0 else 1) t) + 1))), (0, .ref (a (0))), (1, .int (iI (k)))]) C 1 dX5_count_164 rfl (by omega) (by decide) rfl ?_
        refine v_goto (tgt := 141) C dX5_count_167 (by decide) ?_
        refine v_lv (congrArg (fun x9 => ([(3, .int (iI (t + 1))), (2, .int (iI x9)), (0, .ref (a (0))), (1, .int (iI (k)))] : List (Nat × Value))) (show ((sI (fun r => if g 1 r < 0 then 0 else 1) t) + 1) = (sI (fun r => if g 1 r < 0 then 0 else 1) (t + 1)) by first | rfl | (rw [sI_s _ (by omega)]; first | rw [if_pos (by omega)] | rw [if_neg (by omega)]))) ?_
        exact ih141 (t + 1) (by omega) (by omega)
      · skip
        refine v_iconst C dX5_count_157 ?_
        refine v_goto (tgt := 162) C dX5_count_158 (by decide) ?_
        refine v_iadd C dX5_count_162 ?_
        refine v_istore_n (lv' := [(2, .int (iI ((sI (fun r => if g 1 r < 0 then 0 else 1) t) + 0))), (3, .int (iI (t))), (0, .ref (a (0))), (1, .int (iI (k)))]) C dX5_count_163 (by decide) rfl ?_
        refine v_iinc (z' := t + 1) (lv' := [(3, .int (iI (t + 1))), (2, .int (iI ((sI (fun r => if g 1 r < 0 then 0 else 1) t) + 0))), (0, .ref (a (0))), (1, .int (iI (k)))]) C 1 dX5_count_164 rfl (by omega) (by decide) rfl ?_
        refine v_goto (tgt := 141) C dX5_count_167 (by decide) ?_
        refine v_lv (congrArg (fun x9 => ([(3, .int (iI (t + 1))), (2, .int (iI x9)), (0, .ref (a (0))), (1, .int (iI (k)))] : List (Nat × Value))) (show ((sI (fun r => if g 1 r < 0 then 0 else 1) t) + 0) = (sI (fun r => if g 1 r < 0 then 0 else 1) (t + 1)) by first | rfl | (rw [sI_s _ (by omega)]; first | rw [if_pos (by omega)] | rw [if_neg (by omega)]))) ?_
        exact ih141 (t + 1) (by omega) (by omega)
  · refine v_tin (off := 169) (tgt := 172) C 8 dX5_count_3 c3 (by decide) (by decide) (by decide) rfl (by decide) ?_
    refine v_iconst C dX5_count_172 ?_
    refine v_istore_n (lv' := [(3, .int (iI (0))), (2, .int (iI (0))), (0, .ref (a (0))), (1, .int (iI (k)))]) C dX5_count_173 (by decide) rfl ?_
    refine v_lv (congrArg (fun x9 => ([(3, .int (iI x9)), (2, .int (iI (0))), (0, .ref (a (0))), (1, .int (iI (k)))] : List (Nat × Value))) (show (0) = (((0 : Int))) by first | rfl | omega | (simp; done))) ?_
    refine v_lv (congrArg (fun x9 => ([(3, .int (iI (((0 : Int))))), (2, .int (iI x9)), (0, .ref (a (0))), (1, .int (iI (k)))] : List (Nat × Value))) (show (0) = (sI (fun r => if g 4 r < 0 then 0 else 1) ((0 : Int))) by first | rfl | omega | (simp; done))) ?_
    refine v_loop1 (fun (t : Int) => (4 - t).toNat) (fun (t : Int) => 0 ≤ t ∧ t ≤ 4) (fun (t : Int) => [(3, .int (iI (t))), (2, .int (iI (sI (fun r => if g 4 r < 0 then 0 else 1) t))), (0, .ref (a (0))), (1, .int (iI (k)))]) (fun (t : Int) => g) ?_ 0 (by omega)
    intro t hI174 ih174
    try dsimp only at ih174 ⊢
    refine v_iload_n C 0 dX5_count_174 rfl ?_
    refine v_iconst C dX5_count_175 ?_
    refine v_icmp_ge (tgt := 202) C dX5_count_176 (by decide) (by omega) (by omega) (fun c176 => ?_) (fun c176 => ?_)
    · skip
      refine v_iload_n C 1 dX5_count_202 rfl ?_
      exact v_ret_i C rfl dX5_count_203 ⟨(by rw [show t = 4 by omega]; unfold cn bl thr kpt; repeat (first | rfl | rw [if_pos (by omega)] | rw [if_neg (by omega)])), rfl⟩
    · skip
      have hs := HM.ln (t := t) (by omega) (by omega)
      refine v_iload_n C 1 dX5_count_179 rfl ?_
      refine v_aload_n C 2 dX5_count_180 rfl ?_
      refine v_getf C (by omega) (by omega) ct_mod rfl 3 (by decide) wf19 hinX5 rfl dX5_count_181 ?_
      refine v_iload_n C 0 dX5_count_184 rfl ?_
      refine v_iaload C (by omega) (by omega) ct_mlengths (by omega) (by omega) (by decide) dX5_count_185 ?_
      refine v_if_ge (tgt := 193) C dX5_count_186 (by decide) (by omega) (fun c186 => ?_) (fun c186 => ?_)
      · skip
        refine v_iconst C dX5_count_193 ?_
        refine v_iadd C dX5_count_194 ?_
        refine v_istore_n (lv' := [(2, .int (iI ((sI (fun r => if g 4 r < 0 then 0 else 1) t) + 1))), (3, .int (iI (t))), (0, .ref (a (0))), (1, .int (iI (k)))]) C dX5_count_195 (by decide) rfl ?_
        refine v_iinc (z' := t + 1) (lv' := [(3, .int (iI (t + 1))), (2, .int (iI ((sI (fun r => if g 4 r < 0 then 0 else 1) t) + 1))), (0, .ref (a (0))), (1, .int (iI (k)))]) C 1 dX5_count_196 rfl (by omega) (by decide) rfl ?_
        refine v_goto (tgt := 174) C dX5_count_199 (by decide) ?_
        refine v_lv (congrArg (fun x9 => ([(3, .int (iI (t + 1))), (2, .int (iI x9)), (0, .ref (a (0))), (1, .int (iI (k)))] : List (Nat × Value))) (show ((sI (fun r => if g 4 r < 0 then 0 else 1) t) + 1) = (sI (fun r => if g 4 r < 0 then 0 else 1) (t + 1)) by first | rfl | (rw [sI_s _ (by omega)]; first | rw [if_pos (by omega)] | rw [if_neg (by omega)]))) ?_
        exact ih174 (t + 1) (by omega) (by omega)
      · skip
        refine v_iconst C dX5_count_189 ?_
        refine v_goto (tgt := 194) C dX5_count_190 (by decide) ?_
        refine v_iadd C dX5_count_194 ?_
        refine v_istore_n (lv' := [(2, .int (iI ((sI (fun r => if g 4 r < 0 then 0 else 1) t) + 0))), (3, .int (iI (t))), (0, .ref (a (0))), (1, .int (iI (k)))]) C dX5_count_195 (by decide) rfl ?_
        refine v_iinc (z' := t + 1) (lv' := [(3, .int (iI (t + 1))), (2, .int (iI ((sI (fun r => if g 4 r < 0 then 0 else 1) t) + 0))), (0, .ref (a (0))), (1, .int (iI (k)))]) C 1 dX5_count_196 rfl (by omega) (by decide) rfl ?_
        refine v_goto (tgt := 174) C dX5_count_199 (by decide) ?_
        refine v_lv (congrArg (fun x9 => ([(3, .int (iI (t + 1))), (2, .int (iI x9)), (0, .ref (a (0))), (1, .int (iI (k)))] : List (Nat × Value))) (show ((sI (fun r => if g 4 r < 0 then 0 else 1) t) + 0) = (sI (fun r => if g 4 r < 0 then 0 else 1) (t + 1)) by first | rfl | (rw [sI_s _ (by omega)]; first | rw [if_pos (by omega)] | rw [if_neg (by omega)]))) ?_
        exact ih174 (t + 1) (by omega) (by omega)
  · refine v_tin (off := 201) (tgt := 204) C 9 dX5_count_3 c3 (by decide) (by decide) (by decide) rfl (by decide) ?_
    refine v_iconst C dX5_count_204 ?_
    refine v_istore_n (lv' := [(3, .int (iI (0))), (2, .int (iI (0))), (0, .ref (a (0))), (1, .int (iI (k)))]) C dX5_count_205 (by decide) rfl ?_
    refine v_lv (congrArg (fun x9 => ([(3, .int (iI x9)), (2, .int (iI (0))), (0, .ref (a (0))), (1, .int (iI (k)))] : List (Nat × Value))) (show (0) = (((0 : Int))) by first | rfl | omega | (simp; done))) ?_
    refine v_lv (congrArg (fun x9 => ([(3, .int (iI (((0 : Int))))), (2, .int (iI x9)), (0, .ref (a (0))), (1, .int (iI (k)))] : List (Nat × Value))) (show (0) = (sI (fun r => if g 9 r = 0 then 0 else 1) ((0 : Int))) by first | rfl | omega | (simp; done))) ?_
    refine v_loop1 (fun (t : Int) => (3 - t).toNat) (fun (t : Int) => 0 ≤ t ∧ t ≤ 3) (fun (t : Int) => [(3, .int (iI (t))), (2, .int (iI (sI (fun r => if g 9 r = 0 then 0 else 1) t))), (0, .ref (a (0))), (1, .int (iI (k)))]) (fun (t : Int) => g) ?_ 0 (by omega)
    intro t hI206 ih206
    try dsimp only at ih206 ⊢
    refine v_iload_n C 0 dX5_count_206 rfl ?_
    refine v_iconst C dX5_count_207 ?_
    refine v_icmp_ge (tgt := 234) C dX5_count_208 (by decide) (by omega) (by omega) (fun c208 => ?_) (fun c208 => ?_)
    · skip
      refine v_iload_n C 1 dX5_count_234 rfl ?_
      exact v_ret_i C rfl dX5_count_235 ⟨(by rw [show t = 3 by omega]; unfold cn bl thr kpt; repeat (first | rfl | rw [if_pos (by omega)] | rw [if_neg (by omega)])), rfl⟩
    · skip
      have hs := HM.kp (k := t) (by omega) (by omega)
      refine v_iload_n C 1 dX5_count_211 rfl ?_
      refine v_aload_n C 2 dX5_count_212 rfl ?_
      refine v_getf C (by omega) (by omega) ct_mod rfl 8 (by decide) wf34 hinX5 rfl dX5_count_213 ?_
      refine v_iload_n C 0 dX5_count_216 rfl ?_
      refine v_zaload C (by omega) (by omega) ct_misKept (by omega) (by omega) (by decide) dX5_count_217 ?_
      refine v_if_eq (tgt := 225) C dX5_count_218 (by decide) (by omega) (fun c218 => ?_) (fun c218 => ?_)
      · skip
        refine v_iconst C dX5_count_225 ?_
        refine v_iadd C dX5_count_226 ?_
        refine v_istore_n (lv' := [(2, .int (iI ((sI (fun r => if g 9 r = 0 then 0 else 1) t) + 0))), (3, .int (iI (t))), (0, .ref (a (0))), (1, .int (iI (k)))]) C dX5_count_227 (by decide) rfl ?_
        refine v_iinc (z' := t + 1) (lv' := [(3, .int (iI (t + 1))), (2, .int (iI ((sI (fun r => if g 9 r = 0 then 0 else 1) t) + 0))), (0, .ref (a (0))), (1, .int (iI (k)))]) C 1 dX5_count_228 rfl (by omega) (by decide) rfl ?_
        refine v_goto (tgt := 206) C dX5_count_231 (by decide) ?_
        refine v_lv (congrArg (fun x9 => ([(3, .int (iI (t + 1))), (2, .int (iI x9)), (0, .ref (a (0))), (1, .int (iI (k)))] : List (Nat × Value))) (show ((sI (fun r => if g 9 r = 0 then 0 else 1) t) + 0) = (sI (fun r => if g 9 r = 0 then 0 else 1) (t + 1)) by first | rfl | (rw [sI_s _ (by omega)]; first | rw [if_pos (by omega)] | rw [if_neg (by omega)]))) ?_
        exact ih206 (t + 1) (by omega) (by omega)
      · skip
        refine v_iconst C dX5_count_221 ?_
        refine v_goto (tgt := 226) C dX5_count_222 (by decide) ?_
        refine v_iadd C dX5_count_226 ?_
        refine v_istore_n (lv' := [(2, .int (iI ((sI (fun r => if g 9 r = 0 then 0 else 1) t) + 1))), (3, .int (iI (t))), (0, .ref (a (0))), (1, .int (iI (k)))]) C dX5_count_227 (by decide) rfl ?_
        refine v_iinc (z' := t + 1) (lv' := [(3, .int (iI (t + 1))), (2, .int (iI ((sI (fun r => if g 9 r = 0 then 0 else 1) t) + 1))), (0, .ref (a (0))), (1, .int (iI (k)))]) C 1 dX5_count_228 rfl (by omega) (by decide) rfl ?_
        refine v_goto (tgt := 206) C dX5_count_231 (by decide) ?_
        refine v_lv (congrArg (fun x9 => ([(3, .int (iI (t + 1))), (2, .int (iI x9)), (0, .ref (a (0))), (1, .int (iI (k)))] : List (Nat × Value))) (show ((sI (fun r => if g 9 r = 0 then 0 else 1) t) + 1) = (sI (fun r => if g 9 r = 0 then 0 else 1) (t + 1)) by first | rfl | (rw [sI_s _ (by omega)]; first | rw [if_pos (by omega)] | rw [if_neg (by omega)]))) ?_
        exact ih206 (t + 1) (by omega) (by omega)
  · refine v_tout (tgt := 236) C dX5_count_3 (by omega) c3 (by decide) ?_
    refine v_iconst C dX5_count_236 ?_
    exact v_ret_i C rfl dX5_count_237 ⟨(by unfold cn; repeat (first | rfl | rw [if_pos (by omega)] | rw [if_neg (by omega)])), rfl⟩

set_option maxRecDepth 100000 in
set_option maxHeartbeats 4000000 in
theorem c_X5_digest (l : Launch) (D : va_G) (yc : Nat → ClassId) (t1 t2 : Nat) (a : Int → Nat) (A : Nat → Prop) (g : Mm)  (HM : MI g) : Cl l yX5_digest wsX5_digest { frames := 3, cells := 0, slots := 0, locals := 67 } D yc t1 t2 A (mw a yc) [.ref (a (0))] g (fun r9 g' => r9 = (lI (dgM g)) ∧ g' = g) := by
  refine start_l (cc := cX5_digest) (nL := 5) (ret := (some .long)) (own := RX5) (by decide +kernel) rfl rfl (Nat.le_of_ble_eq_true rfl) ?_
  intro p e s m9 below meth c9 C
  have wk223 : Cond.constantLong RX5 223 17 ∈ wsX5_digest := by decide +kernel
  have wf25 : Cond.fieldLink RX5 25 (TX5 5).1 (TX5 5).2.1 (TX5 5).2.2.1 ∈ wsX5_digest := by decide +kernel
  have hinX5 : ∀ w ∈ u_ws RX5 TX5 17, w ∈ wsX5_digest := by decide +kernel
  have wk225 : Cond.constantLong RX5 225 31 ∈ wsX5_digest := by decide +kernel
  have wf19 : Cond.fieldLink RX5 19 (TX5 3).1 (TX5 3).2.1 (TX5 3).2.2.1 ∈ wsX5_digest := by decide +kernel
  have wf22 : Cond.fieldLink RX5 22 (TX5 4).1 (TX5 4).2.1 (TX5 4).2.2.1 ∈ wsX5_digest := by decide +kernel
  have wf7 : Cond.fieldLink RX5 7 (TX5 0).1 (TX5 0).2.1 (TX5 0).2.2.1 ∈ wsX5_digest := by decide +kernel
  have wf13 : Cond.fieldLink RX5 13 (TX5 1).1 (TX5 1).2.1 (TX5 1).2.2.1 ∈ wsX5_digest := by decide +kernel
  have wf34 : Cond.fieldLink RX5 34 (TX5 8).1 (TX5 8).2.1 (TX5 8).2.2.1 ∈ wsX5_digest := by decide +kernel
  have wf31 : Cond.fieldLink RX5 31 (TX5 7).1 (TX5 7).2.1 (TX5 7).2.2.1 ∈ wsX5_digest := by decide +kernel
  have HI := HM.F
  have hn := HI.n
  refine v_lv (lv' := [(0, .ref (a (0)))]) rfl ?_
  refine v_ldc2 (z := 17) C wk223 dX5_digest_0 (by decide) ?_
  refine v_lstore_n (lv' := [(1, .long (lI (17))), (0, .ref (a (0)))]) C dX5_digest_3 (by decide) rfl ?_
  refine v_iconst C dX5_digest_4 ?_
  refine v_istore_n (lv' := [(3, .int (iI (0))), (1, .long (lI (17))), (0, .ref (a (0)))]) C dX5_digest_5 (by decide) rfl ?_
  refine v_lv (congrArg (fun x9 => ([(3, .int (iI x9)), (1, .long (lI (17))), (0, .ref (a (0)))] : List (Nat × Value))) (show (0) = (((0 : Int))) by first | rfl | omega | (simp; done))) ?_
  refine v_lv (congrArg (fun x9 => ([(3, .int (iI (((0 : Int))))), (1, .long (lI x9)), (0, .ref (a (0)))] : List (Nat × Value))) (show (17) = (hf 17 (cn (g 6) (g 1) (g 4) (g 9)) ((0 : Int))) by first | rfl | omega | (simp; done))) ?_
  refine v_loop1 (fun (t : Int) => (10 - t).toNat) (fun (t : Int) => 0 ≤ t ∧ t ≤ 10) (fun (t : Int) => [(3, .int (iI (t))), (1, .long (lI (hf 17 (cn (g 6) (g 1) (g 4) (g 9)) t))), (0, .ref (a (0)))]) (fun (t : Int) => g) ?_ 0 (by omega)
  intro t hI6 ih6
  try dsimp only at ih6 ⊢
  refine v_iload_n C 0 dX5_digest_6 rfl ?_
  refine v_bipush C dX5_digest_7 (by decide) ?_
  refine v_icmp_ge (tgt := 31) C dX5_digest_9 (by decide) (by omega) (by omega) (fun c9 => ?_) (fun c9 => ?_)
  · skip
    refine v_lv (congrArg (fun x9 => ([(3, .int (iI (t))), (1, .long (lI x9)), (0, .ref (a (0)))] : List (Nat × Value))) (show (hf 17 (cn (g 6) (g 1) (g 4) (g 9)) t) = (hf 17 (cn (g 6) (g 1) (g 4) (g 9)) 10) by rw [show t = 10 by omega])) ?_
    refine v_iconst C dX5_digest_31 ?_
    refine v_istore_n (lv' := [(3, .int (iI (0))), (1, .long (lI (hf 17 (cn (g 6) (g 1) (g 4) (g 9)) 10))), (0, .ref (a (0)))]) C dX5_digest_32 (by decide) rfl ?_
    refine v_lv (congrArg (fun x9 => ([(3, .int (iI x9)), (1, .long (lI (hf 17 (cn (g 6) (g 1) (g 4) (g 9)) 10))), (0, .ref (a (0)))] : List (Nat × Value))) (show (0) = (((0 : Int))) by first | rfl | omega | (simp; done))) ?_
    refine v_lv (congrArg (fun x9 => ([(3, .int (iI (((0 : Int))))), (1, .long (lI x9)), (0, .ref (a (0)))] : List (Nat × Value))) (show (hf 17 (cn (g 6) (g 1) (g 4) (g 9)) 10) = (hf (hf 17 (cn (g 6) (g 1) (g 4) (g 9)) 10) (fun k => g 6 (6 + k)) ((0 : Int))) by first | rfl | omega | (simp; done))) ?_
    refine v_loop1 (fun (t : Int) => (g 6 1 - t).toNat) (fun (t : Int) => 0 ≤ t ∧ t ≤ g 6 1) (fun (t : Int) => [(3, .int (iI (t))), (1, .long (lI (hf (hf 17 (cn (g 6) (g 1) (g 4) (g 9)) 10) (fun k => g 6 (6 + k)) t))), (0, .ref (a (0)))]) (fun (t : Int) => g) ?_ 0 (by omega)
    intro t hI33 ih33
    try dsimp only at ih33 ⊢
    refine v_iload_n C 0 dX5_digest_33 rfl ?_
    refine v_aload_n C 2 dX5_digest_34 rfl ?_
    refine v_getf C (by omega) (by omega) ct_mod rfl 5 (by decide) wf25 hinX5 rfl dX5_digest_35 ?_
    refine v_iconst C dX5_digest_38 ?_
    refine v_iaload C (by omega) (by omega) ct_mnow (by omega) (by omega) (by decide) dX5_digest_39 ?_
    refine v_icmp_ge (tgt := 66) C dX5_digest_40 (by decide) (by omega) (by omega) (fun c40 => ?_) (fun c40 => ?_)
    · skip
      refine v_lv (congrArg (fun x9 => ([(3, .int (iI (t))), (1, .long (lI x9)), (0, .ref (a (0)))] : List (Nat × Value))) (show (hf (hf 17 (cn (g 6) (g 1) (g 4) (g 9)) 10) (fun k => g 6 (6 + k)) t) = (hf (hf 17 (cn (g 6) (g 1) (g 4) (g 9)) 10) (fun k => g 6 (6 + k)) (g 6 1)) by rw [show t = g 6 1 by omega])) ?_
      refine v_iconst C dX5_digest_66 ?_
      refine v_istore_n (lv' := [(3, .int (iI (0))), (1, .long (lI (hf (hf 17 (cn (g 6) (g 1) (g 4) (g 9)) 10) (fun k => g 6 (6 + k)) (g 6 1)))), (0, .ref (a (0)))]) C dX5_digest_67 (by decide) rfl ?_
      refine v_lv (congrArg (fun x9 => ([(3, .int (iI x9)), (1, .long (lI (hf (hf 17 (cn (g 6) (g 1) (g 4) (g 9)) 10) (fun k => g 6 (6 + k)) (g 6 1)))), (0, .ref (a (0)))] : List (Nat × Value))) (show (0) = (((0 : Int))) by first | rfl | omega | (simp; done))) ?_
      refine v_lv (congrArg (fun x9 => ([(3, .int (iI (((0 : Int))))), (1, .long (lI x9)), (0, .ref (a (0)))] : List (Nat × Value))) (show (hf (hf 17 (cn (g 6) (g 1) (g 4) (g 9)) 10) (fun k => g 6 (6 + k)) (g 6 1)) = (hf (hf (hf 17 (cn (g 6) (g 1) (g 4) (g 9)) 10) (fun k => g 6 (6 + k)) (g 6 1)) (fun k => bh (g 6) (k / 5) (k % 5)) ((0 : Int))) by first | rfl | omega | (simp; done))) ?_
      refine v_loop1 (fun (t : Int) => (5 * g 6 0 - t).toNat) (fun (t : Int) => 0 ≤ t ∧ t ≤ 5 * g 6 0) (fun (t : Int) => [(3, .int (iI (t))), (1, .long (lI (hf (hf (hf 17 (cn (g 6) (g 1) (g 4) (g 9)) 10) (fun k => g 6 (6 + k)) (g 6 1)) (fun k => bh (g 6) (k / 5) (k % 5)) t))), (0, .ref (a (0)))]) (fun (t : Int) => g) ?_ 0 (by omega)
      intro t hI68 ih68
      try dsimp only at ih68 ⊢
      refine v_iload_n C 0 dX5_digest_68 rfl ?_
      refine v_iconst C dX5_digest_69 ?_
      refine v_aload_n C 2 dX5_digest_70 rfl ?_
      refine v_getf C (by omega) (by omega) ct_mod rfl 5 (by decide) wf25 hinX5 rfl dX5_digest_71 ?_
      refine v_iconst C dX5_digest_74 ?_
      refine v_iaload C (by omega) (by omega) ct_mnow (by omega) (by omega) (by decide) dX5_digest_75 ?_
      refine v_imul C dX5_digest_76 ?_
      refine v_icmp_ge (tgt := 104) C dX5_digest_77 (by decide) (by omega) (by omega) (fun c77 => ?_) (fun c77 => ?_)
      · skip
        refine v_lv (congrArg (fun x9 => ([(3, .int (iI (t))), (1, .long (lI x9)), (0, .ref (a (0)))] : List (Nat × Value))) (show (hf (hf (hf 17 (cn (g 6) (g 1) (g 4) (g 9)) 10) (fun k => g 6 (6 + k)) (g 6 1)) (fun k => bh (g 6) (k / 5) (k % 5)) t) = (hf (hf (hf 17 (cn (g 6) (g 1) (g 4) (g 9)) 10) (fun k => g 6 (6 + k)) (g 6 1)) (fun k => bh (g 6) (k / 5) (k % 5)) (5 * g 6 0)) by rw [show t = 5 * g 6 0 by omega])) ?_
        refine v_iconst C dX5_digest_104 ?_
        refine v_istore_n (lv' := [(3, .int (iI (0))), (1, .long (lI (hf (hf (hf 17 (cn (g 6) (g 1) (g 4) (g 9)) 10) (fun k => g 6 (6 + k)) (g 6 1)) (fun k => bh (g 6) (k / 5) (k % 5)) (5 * g 6 0)))), (0, .ref (a (0)))]) C dX5_digest_105 (by decide) rfl ?_
        refine v_lv (congrArg (fun x9 => ([(3, .int (iI x9)), (1, .long (lI (hf (hf (hf 17 (cn (g 6) (g 1) (g 4) (g 9)) 10) (fun k => g 6 (6 + k)) (g 6 1)) (fun k => bh (g 6) (k / 5) (k % 5)) (5 * g 6 0)))), (0, .ref (a (0)))] : List (Nat × Value))) (show (0) = (((0 : Int))) by first | rfl | omega | (simp; done))) ?_
        refine v_lv (congrArg (fun x9 => ([(3, .int (iI (((0 : Int))))), (1, .long (lI x9)), (0, .ref (a (0)))] : List (Nat × Value))) (show (hf (hf (hf 17 (cn (g 6) (g 1) (g 4) (g 9)) 10) (fun k => g 6 (6 + k)) (g 6 1)) (fun k => bh (g 6) (k / 5) (k % 5)) (5 * g 6 0)) = (hf (hf (hf (hf 17 (cn (g 6) (g 1) (g 4) (g 9)) 10) (fun k => g 6 (6 + k)) (g 6 1)) (fun k => bh (g 6) (k / 5) (k % 5)) (5 * g 6 0)) (fun k => if g 9 k = 0 then -1 else g 8 (98 * k + 4)) ((0 : Int))) by first | rfl | omega | (simp; done))) ?_
        refine v_loop1 (fun (t : Int) => (3 - t).toNat) (fun (t : Int) => 0 ≤ t ∧ t ≤ 3) (fun (t : Int) => [(3, .int (iI (t))), (1, .long (lI (hf (hf (hf (hf 17 (cn (g 6) (g 1) (g 4) (g 9)) 10) (fun k => g 6 (6 + k)) (g 6 1)) (fun k => bh (g 6) (k / 5) (k % 5)) (5 * g 6 0)) (fun k => if g 9 k = 0 then -1 else g 8 (98 * k + 4)) t))), (0, .ref (a (0)))]) (fun (t : Int) => g) ?_ 0 (by omega)
        intro t hI106 ih106
        try dsimp only at ih106 ⊢
        refine v_iload_n C 0 dX5_digest_106 rfl ?_
        refine v_iconst C dX5_digest_107 ?_
        refine v_icmp_ge (tgt := 149) C dX5_digest_108 (by decide) (by omega) (by omega) (fun c108 => ?_) (fun c108 => ?_)
        · skip
          refine v_lv (congrArg (fun x9 => ([(3, .int (iI (t))), (1, .long (lI x9)), (0, .ref (a (0)))] : List (Nat × Value))) (show (hf (hf (hf (hf 17 (cn (g 6) (g 1) (g 4) (g 9)) 10) (fun k => g 6 (6 + k)) (g 6 1)) (fun k => bh (g 6) (k / 5) (k % 5)) (5 * g 6 0)) (fun k => if g 9 k = 0 then -1 else g 8 (98 * k + 4)) t) = (hf (hf (hf (hf 17 (cn (g 6) (g 1) (g 4) (g 9)) 10) (fun k => g 6 (6 + k)) (g 6 1)) (fun k => bh (g 6) (k / 5) (k % 5)) (5 * g 6 0)) (fun k => if g 9 k = 0 then -1 else g 8 (98 * k + 4)) 3) by rw [show t = 3 by omega])) ?_
          refine v_iconst C dX5_digest_149 ?_
          refine v_istore_n (lv' := [(3, .int (iI (0))), (1, .long (lI (hf (hf (hf (hf 17 (cn (g 6) (g 1) (g 4) (g 9)) 10) (fun k => g 6 (6 + k)) (g 6 1)) (fun k => bh (g 6) (k / 5) (k % 5)) (5 * g 6 0)) (fun k => if g 9 k = 0 then -1 else g 8 (98 * k + 4)) 3))), (0, .ref (a (0)))]) C dX5_digest_150 (by decide) rfl ?_
          refine v_lv (congrArg (fun x9 => ([(3, .int (iI x9)), (1, .long (lI (hf (hf (hf (hf 17 (cn (g 6) (g 1) (g 4) (g 9)) 10) (fun k => g 6 (6 + k)) (g 6 1)) (fun k => bh (g 6) (k / 5) (k % 5)) (5 * g 6 0)) (fun k => if g 9 k = 0 then -1 else g 8 (98 * k + 4)) 3))), (0, .ref (a (0)))] : List (Nat × Value))) (show (0) = (((0 : Int))) by first | rfl | omega | (simp; done))) ?_
          refine v_lv (congrArg (fun x9 => ([(3, .int (iI (((0 : Int))))), (1, .long (lI x9)), (0, .ref (a (0)))] : List (Nat × Value))) (show (hf (hf (hf (hf 17 (cn (g 6) (g 1) (g 4) (g 9)) 10) (fun k => g 6 (6 + k)) (g 6 1)) (fun k => bh (g 6) (k / 5) (k % 5)) (5 * g 6 0)) (fun k => if g 9 k = 0 then -1 else g 8 (98 * k + 4)) 3) = (rf (hf (hf (hf (hf 17 (cn (g 6) (g 1) (g 4) (g 9)) 10) (fun k => g 6 (6 + k)) (g 6 1)) (fun k => bh (g 6) (k / 5) (k % 5)) (5 * g 6 0)) (fun k => if g 9 k = 0 then -1 else g 8 (98 * k + 4)) 3) (g 1) (fun u9 j9 => g 2 (40 * u9 + j9)) ((0 : Int))) by first | rfl | omega | (simp; done))) ?_
          refine v_loop1 (fun (t : Int) => (6 - t).toNat) (fun (t : Int) => 0 ≤ t ∧ t ≤ 6) (fun (t : Int) => [(3, .int (iI (t))), (1, .long (lI (rf (hf (hf (hf (hf 17 (cn (g 6) (g 1) (g 4) (g 9)) 10) (fun k => g 6 (6 + k)) (g 6 1)) (fun k => bh (g 6) (k / 5) (k % 5)) (5 * g 6 0)) (fun k => if g 9 k = 0 then -1 else g 8 (98 * k + 4)) 3) (g 1) (fun u9 j9 => g 2 (40 * u9 + j9)) t))), (0, .ref (a (0)))]) (fun (t : Int) => g) ?_ 0 (by omega)
          intro t hI151 ih151
          try dsimp only at ih151 ⊢
          refine v_iload_n C 0 dX5_digest_151 rfl ?_
          refine v_bipush C dX5_digest_152 (by decide) ?_
          refine v_icmp_ge (tgt := 217) C dX5_digest_154 (by decide) (by omega) (by omega) (fun c154 => ?_) (fun c154 => ?_)
          · skip
            refine v_lv (congrArg (fun x9 => ([(3, .int (iI (t))), (1, .long (lI x9)), (0, .ref (a (0)))] : List (Nat × Value))) (show (rf (hf (hf (hf (hf 17 (cn (g 6) (g 1) (g 4) (g 9)) 10) (fun k => g 6 (6 + k)) (g 6 1)) (fun k => bh (g 6) (k / 5) (k % 5)) (5 * g 6 0)) (fun k => if g 9 k = 0 then -1 else g 8 (98 * k + 4)) 3) (g 1) (fun u9 j9 => g 2 (40 * u9 + j9)) t) = (rf (hf (hf (hf (hf 17 (cn (g 6) (g 1) (g 4) (g 9)) 10) (fun k => g 6 (6 + k)) (g 6 1)) (fun k => bh (g 6) (k / 5) (k % 5)) (5 * g 6 0)) (fun k => if g 9 k = 0 then -1 else g 8 (98 * k + 4)) 3) (g 1) (fun u9 j9 => g 2 (40 * u9 + j9)) 6) by rw [show t = 6 by omega])) ?_
            refine v_iconst C dX5_digest_217 ?_
            refine v_istore_n (lv' := [(3, .int (iI (0))), (1, .long (lI (rf (hf (hf (hf (hf 17 (cn (g 6) (g 1) (g 4) (g 9)) 10) (fun k => g 6 (6 + k)) (g 6 1)) (fun k => bh (g 6) (k / 5) (k % 5)) (5 * g 6 0)) (fun k => if g 9 k = 0 then -1 else g 8 (98 * k + 4)) 3) (g 1) (fun u9 j9 => g 2 (40 * u9 + j9)) 6))), (0, .ref (a (0)))]) C dX5_digest_218 (by decide) rfl ?_
            refine v_lv (congrArg (fun x9 => ([(3, .int (iI x9)), (1, .long (lI (rf (hf (hf (hf (hf 17 (cn (g 6) (g 1) (g 4) (g 9)) 10) (fun k => g 6 (6 + k)) (g 6 1)) (fun k => bh (g 6) (k / 5) (k % 5)) (5 * g 6 0)) (fun k => if g 9 k = 0 then -1 else g 8 (98 * k + 4)) 3) (g 1) (fun u9 j9 => g 2 (40 * u9 + j9)) 6))), (0, .ref (a (0)))] : List (Nat × Value))) (show (0) = (((0 : Int))) by first | rfl | omega | (simp; done))) ?_
            refine v_lv (congrArg (fun x9 => ([(3, .int (iI (((0 : Int))))), (1, .long (lI x9)), (0, .ref (a (0)))] : List (Nat × Value))) (show (rf (hf (hf (hf (hf 17 (cn (g 6) (g 1) (g 4) (g 9)) 10) (fun k => g 6 (6 + k)) (g 6 1)) (fun k => bh (g 6) (k / 5) (k % 5)) (5 * g 6 0)) (fun k => if g 9 k = 0 then -1 else g 8 (98 * k + 4)) 3) (g 1) (fun u9 j9 => g 2 (40 * u9 + j9)) 6) = (rf (rf (hf (hf (hf (hf 17 (cn (g 6) (g 1) (g 4) (g 9)) 10) (fun k => g 6 (6 + k)) (g 6 1)) (fun k => bh (g 6) (k / 5) (k % 5)) (5 * g 6 0)) (fun k => if g 9 k = 0 then -1 else g 8 (98 * k + 4)) 3) (g 1) (fun u9 j9 => g 2 (40 * u9 + j9)) 6) (g 4) (fun u9 j9 => g 5 (60 * u9 + j9)) ((0 : Int))) by first | rfl | omega | (simp; done))) ?_
            refine v_loop1 (fun (t : Int) => (4 - t).toNat) (fun (t : Int) => 0 ≤ t ∧ t ≤ 4) (fun (t : Int) => [(3, .int (iI (t))), (1, .long (lI (rf (rf (hf (hf (hf (hf 17 (cn (g 6) (g 1) (g 4) (g 9)) 10) (fun k => g 6 (6 + k)) (g 6 1)) (fun k => bh (g 6) (k / 5) (k % 5)) (5 * g 6 0)) (fun k => if g 9 k = 0 then -1 else g 8 (98 * k + 4)) 3) (g 1) (fun u9 j9 => g 2 (40 * u9 + j9)) 6) (g 4) (fun u9 j9 => g 5 (60 * u9 + j9)) t))), (0, .ref (a (0)))]) (fun (t : Int) => g) ?_ 0 (by omega)
            intro t hI219 ih219
            try dsimp only at ih219 ⊢
            refine v_iload_n C 0 dX5_digest_219 rfl ?_
            refine v_iconst C dX5_digest_220 ?_
            refine v_icmp_ge (tgt := 284) C dX5_digest_221 (by decide) (by omega) (by omega) (fun c221 => ?_) (fun c221 => ?_)
            · skip
              refine v_lload_n C 1 dX5_digest_284 rfl ?_
              exact v_ret_l C rfl dX5_digest_285 ⟨(by rw [show t = 4 by omega]; rfl), rfl⟩
            · skip
              have hs := HM.ln (t := t) (by omega) (by omega)
              refine v_ldc2 (z := 31) C wk225 dX5_digest_224 (by decide) ?_
              refine v_lload_n C 1 dX5_digest_227 rfl ?_
              refine v_lmul C dX5_digest_228 ?_
              refine v_aload_n C 2 dX5_digest_229 rfl ?_
              refine v_getf C (by omega) (by omega) ct_mod rfl 3 (by decide) wf19 hinX5 rfl dX5_digest_230 ?_
              refine v_iload_n C 0 dX5_digest_233 rfl ?_
              refine v_iaload C (by omega) (by omega) ct_mlengths (by omega) (by omega) (by decide) dX5_digest_234 ?_
              refine v_i2l C dX5_digest_235 (by have := HM.ln (t := t) (by omega) (by omega); omega) ?_
              refine v_ladd C dX5_digest_236 ?_
              refine v_lstore_n (lv' := [(1, .long (lI ((31 * (rf (rf (hf (hf (hf (hf 17 (cn (g 6) (g 1) (g 4) (g 9)) 10) (fun k => g 6 (6 + k)) (g 6 1)) (fun k => bh (g 6) (k / 5) (k % 5)) (5 * g 6 0)) (fun k => if g 9 k = 0 then -1 else g 8 (98 * k + 4)) 3) (g 1) (fun u9 j9 => g 2 (40 * u9 + j9)) 6) (g 4) (fun u9 j9 => g 5 (60 * u9 + j9)) t)) + (g (4) (t))))), (3, .int (iI (t))), (0, .ref (a (0)))]) C dX5_digest_237 (by decide) rfl ?_
              refine v_iconst C dX5_digest_238 ?_
              refine v_istore (lv' := [(4, .int (iI (0))), (1, .long (lI ((31 * (rf (rf (hf (hf (hf (hf 17 (cn (g 6) (g 1) (g 4) (g 9)) 10) (fun k => g 6 (6 + k)) (g 6 1)) (fun k => bh (g 6) (k / 5) (k % 5)) (5 * g 6 0)) (fun k => if g 9 k = 0 then -1 else g 8 (98 * k + 4)) 3) (g 1) (fun u9 j9 => g 2 (40 * u9 + j9)) 6) (g 4) (fun u9 j9 => g 5 (60 * u9 + j9)) t)) + (g (4) (t))))), (3, .int (iI (t))), (0, .ref (a (0)))]) C dX5_digest_239 (by decide) rfl ?_
              refine v_lv (congrArg (fun x9 => ([(4, .int (iI x9)), (1, .long (lI ((31 * (rf (rf (hf (hf (hf (hf 17 (cn (g 6) (g 1) (g 4) (g 9)) 10) (fun k => g 6 (6 + k)) (g 6 1)) (fun k => bh (g 6) (k / 5) (k % 5)) (5 * g 6 0)) (fun k => if g 9 k = 0 then -1 else g 8 (98 * k + 4)) 3) (g 1) (fun u9 j9 => g 2 (40 * u9 + j9)) 6) (g 4) (fun u9 j9 => g 5 (60 * u9 + j9)) t)) + (g (4) (t))))), (3, .int (iI (t))), (0, .ref (a (0)))] : List (Nat × Value))) (show (0) = (((0 : Int))) by first | rfl | omega | (simp; done))) ?_
              refine v_lv (congrArg (fun x9 => ([(4, .int (iI (((0 : Int))))), (1, .long (lI x9)), (3, .int (iI (t))), (0, .ref (a (0)))] : List (Nat × Value))) (show ((31 * (rf (rf (hf (hf (hf (hf 17 (cn (g 6) (g 1) (g 4) (g 9)) 10) (fun k => g 6 (6 + k)) (g 6 1)) (fun k => bh (g 6) (k / 5) (k % 5)) (5 * g 6 0)) (fun k => if g 9 k = 0 then -1 else g 8 (98 * k + 4)) 3) (g 1) (fun u9 j9 => g 2 (40 * u9 + j9)) 6) (g 4) (fun u9 j9 => g 5 (60 * u9 + j9)) t)) + (g (4) (t))) = (hf (31 * rf (rf (hf (hf (hf (hf 17 (cn (g 6) (g 1) (g 4) (g 9)) 10) (fun k => g 6 (6 + k)) (g 6 1)) (fun k => bh (g 6) (k / 5) (k % 5)) (5 * g 6 0)) (fun k => if g 9 k = 0 then -1 else g 8 (98 * k + 4)) 3) (g 1) (fun u9 j9 => g 2 (40 * u9 + j9)) 6) (g 4) (fun u9 j9 => g 5 (60 * u9 + j9)) t + g 4 t) ((fun u9 j9 => g 5 (60 * u9 + j9)) t) ((0 : Int))) by first | rfl | omega | (simp; done))) ?_
              refine v_loop1 (fun (y : Int) => (g 4 t - y).toNat) (fun (y : Int) => 0 ≤ y ∧ (y ≤ g 4 t ∨ y = 0)) (fun (y : Int) => [(4, .int (iI (y))), (1, .long (lI (hf (31 * rf (rf (hf (hf (hf (hf 17 (cn (g 6) (g 1) (g 4) (g 9)) 10) (fun k => g 6 (6 + k)) (g 6 1)) (fun k => bh (g 6) (k / 5) (k % 5)) (5 * g 6 0)) (fun k => if g 9 k = 0 then -1 else g 8 (98 * k + 4)) 3) (g 1) (fun u9 j9 => g 2 (40 * u9 + j9)) 6) (g 4) (fun u9 j9 => g 5 (60 * u9 + j9)) t + g 4 t) ((fun u9 j9 => g 5 (60 * u9 + j9)) t) y))), (3, .int (iI (t))), (0, .ref (a (0)))]) (fun (y : Int) => g) ?_ 0 (by omega)
              intro y hI241 ih241
              try dsimp only at ih241 ⊢
              refine v_iload C 0 dX5_digest_241 rfl ?_
              refine v_aload_n C 3 dX5_digest_243 rfl ?_
              refine v_getf C (by omega) (by omega) ct_mod rfl 3 (by decide) wf19 hinX5 rfl dX5_digest_244 ?_
              refine v_iload_n C 2 dX5_digest_247 rfl ?_
              refine v_iaload C (by omega) (by omega) ct_mlengths (by omega) (by omega) (by decide) dX5_digest_248 ?_
              refine v_icmp_ge (tgt := 278) C dX5_digest_249 (by decide) (by omega) (by omega) (fun c249 => ?_) (fun c249 => ?_)
              · skip
                refine v_lv (congrArg (fun x9 => ([(4, .int (iI (y))), (1, .long (lI x9)), (3, .int (iI (t))), (0, .ref (a (0)))] : List (Nat × Value))) (show (hf (31 * rf (rf (hf (hf (hf (hf 17 (cn (g 6) (g 1) (g 4) (g 9)) 10) (fun k => g 6 (6 + k)) (g 6 1)) (fun k => bh (g 6) (k / 5) (k % 5)) (5 * g 6 0)) (fun k => if g 9 k = 0 then -1 else g 8 (98 * k + 4)) 3) (g 1) (fun u9 j9 => g 2 (40 * u9 + j9)) 6) (g 4) (fun u9 j9 => g 5 (60 * u9 + j9)) t + g 4 t) ((fun u9 j9 => g 5 (60 * u9 + j9)) t) y) = (rf (rf (hf (hf (hf (hf 17 (cn (g 6) (g 1) (g 4) (g 9)) 10) (fun k => g 6 (6 + k)) (g 6 1)) (fun k => bh (g 6) (k / 5) (k % 5)) (5 * g 6 0)) (fun k => if g 9 k = 0 then -1 else g 8 (98 * k + 4)) 3) (g 1) (fun u9 j9 => g 2 (40 * u9 + j9)) 6) (g 4) (fun u9 j9 => g 5 (60 * u9 + j9)) (t + 1)) by rw [rf_s _ _ _ (by omega)]; unfold hf; rw [show y.toNat = (g 4 t).toNat by omega])) ?_
                refine v_iinc (z' := t + 1) (lv' := [(3, .int (iI (t + 1))), (4, .int (iI (y))), (1, .long (lI (rf (rf (hf (hf (hf (hf 17 (cn (g 6) (g 1) (g 4) (g 9)) 10) (fun k => g 6 (6 + k)) (g 6 1)) (fun k => bh (g 6) (k / 5) (k % 5)) (5 * g 6 0)) (fun k => if g 9 k = 0 then -1 else g 8 (98 * k + 4)) 3) (g 1) (fun u9 j9 => g 2 (40 * u9 + j9)) 6) (g 4) (fun u9 j9 => g 5 (60 * u9 + j9)) (t + 1)))), (0, .ref (a (0)))]) C 2 dX5_digest_278 rfl (by omega) (by decide) rfl ?_
                refine v_goto (tgt := 219) C dX5_digest_281 (by decide) ?_
                refine v_sub (lv' := [(3, .int (iI (t + 1))), (1, .long (lI (rf (rf (hf (hf (hf (hf 17 (cn (g 6) (g 1) (g 4) (g 9)) 10) (fun k => g 6 (6 + k)) (g 6 1)) (fun k => bh (g 6) (k / 5) (k % 5)) (5 * g 6 0)) (fun k => if g 9 k = 0 then -1 else g 8 (98 * k + 4)) 3) (g 1) (fun u9 j9 => g 2 (40 * u9 + j9)) 6) (g 4) (fun u9 j9 => g 5 (60 * u9 + j9)) (t + 1)))), (0, .ref (a (0)))]) [0, 2, 3] rfl ?_
                exact ih219 (t + 1) (by omega) (by omega)
              · skip
                refine v_ldc2 (z := 31) C wk225 dX5_digest_252 (by decide) ?_
                refine v_lload_n C 1 dX5_digest_255 rfl ?_
                refine v_lmul C dX5_digest_256 ?_
                refine v_aload_n C 3 dX5_digest_257 rfl ?_
                refine v_getf C (by omega) (by omega) ct_mod rfl 4 (by decide) wf22 hinX5 rfl dX5_digest_258 ?_
                refine v_bipush C dX5_digest_261 (by decide) ?_
                refine v_iload_n C 2 dX5_digest_263 rfl ?_
                refine v_imul C dX5_digest_264 ?_
                refine v_iload C 0 dX5_digest_265 rfl ?_
                refine v_iadd C dX5_digest_267 ?_
                refine v_iaload C (by omega) (by omega) ct_mbytes (by omega) (by omega) (by decide) dX5_digest_268 ?_
                refine v_i2l C dX5_digest_269 (by have := HM.by (60 * t + y); omega) ?_
                refine v_ladd C dX5_digest_270 ?_
                refine v_st (st' := [.long (lI (hf (31 * rf (rf (hf (hf (hf (hf 17 (cn (g 6) (g 1) (g 4) (g 9)) 10) (fun k => g 6 (6 + k)) (g 6 1)) (fun k => bh (g 6) (k / 5) (k % 5)) (5 * g 6 0)) (fun k => if g 9 k = 0 then -1 else g 8 (98 * k + 4)) 3) (g 1) (fun u9 j9 => g 2 (40 * u9 + j9)) 6) (g 4) (fun u9 j9 => g 5 (60 * u9 + j9)) t + g 4 t) ((fun u9 j9 => g 5 (60 * u9 + j9)) t) (y + 1)))]) (by rw [hf_s _ _ (by omega)]) ?_
                refine v_lstore_n (lv' := [(1, .long (lI (hf (31 * rf (rf (hf (hf (hf (hf 17 (cn (g 6) (g 1) (g 4) (g 9)) 10) (fun k => g 6 (6 + k)) (g 6 1)) (fun k => bh (g 6) (k / 5) (k % 5)) (5 * g 6 0)) (fun k => if g 9 k = 0 then -1 else g 8 (98 * k + 4)) 3) (g 1) (fun u9 j9 => g 2 (40 * u9 + j9)) 6) (g 4) (fun u9 j9 => g 5 (60 * u9 + j9)) t + g 4 t) ((fun u9 j9 => g 5 (60 * u9 + j9)) t) (y + 1)))), (4, .int (iI (y))), (3, .int (iI (t))), (0, .ref (a (0)))]) C dX5_digest_271 (by decide) rfl ?_
                refine v_iinc (z' := y + 1) (lv' := [(4, .int (iI (y + 1))), (1, .long (lI (hf (31 * rf (rf (hf (hf (hf (hf 17 (cn (g 6) (g 1) (g 4) (g 9)) 10) (fun k => g 6 (6 + k)) (g 6 1)) (fun k => bh (g 6) (k / 5) (k % 5)) (5 * g 6 0)) (fun k => if g 9 k = 0 then -1 else g 8 (98 * k + 4)) 3) (g 1) (fun u9 j9 => g 2 (40 * u9 + j9)) 6) (g 4) (fun u9 j9 => g 5 (60 * u9 + j9)) t + g 4 t) ((fun u9 j9 => g 5 (60 * u9 + j9)) t) (y + 1)))), (3, .int (iI (t))), (0, .ref (a (0)))]) C 1 dX5_digest_272 rfl (by omega) (by decide) rfl ?_
                refine v_goto (tgt := 241) C dX5_digest_275 (by decide) ?_
                exact ih241 (y + 1) (by omega) (by omega)
          · skip
            have hs := HM.sz (r := t) (by omega) (by omega)
            refine v_ldc2 (z := 31) C wk225 dX5_digest_157 (by decide) ?_
            refine v_lload_n C 1 dX5_digest_160 rfl ?_
            refine v_lmul C dX5_digest_161 ?_
            refine v_aload_n C 2 dX5_digest_162 rfl ?_
            refine v_getf C (by omega) (by omega) ct_mod rfl 0 (by decide) wf7 hinX5 rfl dX5_digest_163 ?_
            refine v_iload_n C 0 dX5_digest_166 rfl ?_
            refine v_iaload C (by omega) (by omega) ct_msizes (by omega) (by omega) (by decide) dX5_digest_167 ?_
            refine v_i2l C dX5_digest_168 (by have := HM.sz (r := t) (by omega) (by omega); omega) ?_
            refine v_ladd C dX5_digest_169 ?_
            refine v_lstore_n (lv' := [(1, .long (lI ((31 * (rf (hf (hf (hf (hf 17 (cn (g 6) (g 1) (g 4) (g 9)) 10) (fun k => g 6 (6 + k)) (g 6 1)) (fun k => bh (g 6) (k / 5) (k % 5)) (5 * g 6 0)) (fun k => if g 9 k = 0 then -1 else g 8 (98 * k + 4)) 3) (g 1) (fun u9 j9 => g 2 (40 * u9 + j9)) t)) + (g (1) (t))))), (3, .int (iI (t))), (0, .ref (a (0)))]) C dX5_digest_170 (by decide) rfl ?_
            refine v_iconst C dX5_digest_171 ?_
            refine v_istore (lv' := [(4, .int (iI (0))), (1, .long (lI ((31 * (rf (hf (hf (hf (hf 17 (cn (g 6) (g 1) (g 4) (g 9)) 10) (fun k => g 6 (6 + k)) (g 6 1)) (fun k => bh (g 6) (k / 5) (k % 5)) (5 * g 6 0)) (fun k => if g 9 k = 0 then -1 else g 8 (98 * k + 4)) 3) (g 1) (fun u9 j9 => g 2 (40 * u9 + j9)) t)) + (g (1) (t))))), (3, .int (iI (t))), (0, .ref (a (0)))]) C dX5_digest_172 (by decide) rfl ?_
            refine v_lv (congrArg (fun x9 => ([(4, .int (iI x9)), (1, .long (lI ((31 * (rf (hf (hf (hf (hf 17 (cn (g 6) (g 1) (g 4) (g 9)) 10) (fun k => g 6 (6 + k)) (g 6 1)) (fun k => bh (g 6) (k / 5) (k % 5)) (5 * g 6 0)) (fun k => if g 9 k = 0 then -1 else g 8 (98 * k + 4)) 3) (g 1) (fun u9 j9 => g 2 (40 * u9 + j9)) t)) + (g (1) (t))))), (3, .int (iI (t))), (0, .ref (a (0)))] : List (Nat × Value))) (show (0) = (((0 : Int))) by first | rfl | omega | (simp; done))) ?_
            refine v_lv (congrArg (fun x9 => ([(4, .int (iI (((0 : Int))))), (1, .long (lI x9)), (3, .int (iI (t))), (0, .ref (a (0)))] : List (Nat × Value))) (show ((31 * (rf (hf (hf (hf (hf 17 (cn (g 6) (g 1) (g 4) (g 9)) 10) (fun k => g 6 (6 + k)) (g 6 1)) (fun k => bh (g 6) (k / 5) (k % 5)) (5 * g 6 0)) (fun k => if g 9 k = 0 then -1 else g 8 (98 * k + 4)) 3) (g 1) (fun u9 j9 => g 2 (40 * u9 + j9)) t)) + (g (1) (t))) = (hf (31 * rf (hf (hf (hf (hf 17 (cn (g 6) (g 1) (g 4) (g 9)) 10) (fun k => g 6 (6 + k)) (g 6 1)) (fun k => bh (g 6) (k / 5) (k % 5)) (5 * g 6 0)) (fun k => if g 9 k = 0 then -1 else g 8 (98 * k + 4)) 3) (g 1) (fun u9 j9 => g 2 (40 * u9 + j9)) t + g 1 t) ((fun u9 j9 => g 2 (40 * u9 + j9)) t) ((0 : Int))) by first | rfl | omega | (simp; done))) ?_
            refine v_loop1 (fun (y : Int) => (g 1 t - y).toNat) (fun (y : Int) => 0 ≤ y ∧ (y ≤ g 1 t ∨ y = 0)) (fun (y : Int) => [(4, .int (iI (y))), (1, .long (lI (hf (31 * rf (hf (hf (hf (hf 17 (cn (g 6) (g 1) (g 4) (g 9)) 10) (fun k => g 6 (6 + k)) (g 6 1)) (fun k => bh (g 6) (k / 5) (k % 5)) (5 * g 6 0)) (fun k => if g 9 k = 0 then -1 else g 8 (98 * k + 4)) 3) (g 1) (fun u9 j9 => g 2 (40 * u9 + j9)) t + g 1 t) ((fun u9 j9 => g 2 (40 * u9 + j9)) t) y))), (3, .int (iI (t))), (0, .ref (a (0)))]) (fun (y : Int) => g) ?_ 0 (by omega)
            intro y hI174 ih174
            try dsimp only at ih174 ⊢
            refine v_iload C 0 dX5_digest_174 rfl ?_
            refine v_aload_n C 3 dX5_digest_176 rfl ?_
            refine v_getf C (by omega) (by omega) ct_mod rfl 0 (by decide) wf7 hinX5 rfl dX5_digest_177 ?_
            refine v_iload_n C 2 dX5_digest_180 rfl ?_
            refine v_iaload C (by omega) (by omega) ct_msizes (by omega) (by omega) (by decide) dX5_digest_181 ?_
            refine v_icmp_ge (tgt := 211) C dX5_digest_182 (by decide) (by omega) (by omega) (fun c182 => ?_) (fun c182 => ?_)
            · skip
              refine v_lv (congrArg (fun x9 => ([(4, .int (iI (y))), (1, .long (lI x9)), (3, .int (iI (t))), (0, .ref (a (0)))] : List (Nat × Value))) (show (hf (31 * rf (hf (hf (hf (hf 17 (cn (g 6) (g 1) (g 4) (g 9)) 10) (fun k => g 6 (6 + k)) (g 6 1)) (fun k => bh (g 6) (k / 5) (k % 5)) (5 * g 6 0)) (fun k => if g 9 k = 0 then -1 else g 8 (98 * k + 4)) 3) (g 1) (fun u9 j9 => g 2 (40 * u9 + j9)) t + g 1 t) ((fun u9 j9 => g 2 (40 * u9 + j9)) t) y) = (rf (hf (hf (hf (hf 17 (cn (g 6) (g 1) (g 4) (g 9)) 10) (fun k => g 6 (6 + k)) (g 6 1)) (fun k => bh (g 6) (k / 5) (k % 5)) (5 * g 6 0)) (fun k => if g 9 k = 0 then -1 else g 8 (98 * k + 4)) 3) (g 1) (fun u9 j9 => g 2 (40 * u9 + j9)) (t + 1)) by rw [rf_s _ _ _ (by omega)]; unfold hf; rw [show y.toNat = (g 1 t).toNat by omega])) ?_
              refine v_iinc (z' := t + 1) (lv' := [(3, .int (iI (t + 1))), (4, .int (iI (y))), (1, .long (lI (rf (hf (hf (hf (hf 17 (cn (g 6) (g 1) (g 4) (g 9)) 10) (fun k => g 6 (6 + k)) (g 6 1)) (fun k => bh (g 6) (k / 5) (k % 5)) (5 * g 6 0)) (fun k => if g 9 k = 0 then -1 else g 8 (98 * k + 4)) 3) (g 1) (fun u9 j9 => g 2 (40 * u9 + j9)) (t + 1)))), (0, .ref (a (0)))]) C 2 dX5_digest_211 rfl (by omega) (by decide) rfl ?_
              refine v_goto (tgt := 151) C dX5_digest_214 (by decide) ?_
              refine v_sub (lv' := [(3, .int (iI (t + 1))), (1, .long (lI (rf (hf (hf (hf (hf 17 (cn (g 6) (g 1) (g 4) (g 9)) 10) (fun k => g 6 (6 + k)) (g 6 1)) (fun k => bh (g 6) (k / 5) (k % 5)) (5 * g 6 0)) (fun k => if g 9 k = 0 then -1 else g 8 (98 * k + 4)) 3) (g 1) (fun u9 j9 => g 2 (40 * u9 + j9)) (t + 1)))), (0, .ref (a (0)))]) [0, 2, 3] rfl ?_
              exact ih151 (t + 1) (by omega) (by omega)
            · skip
              refine v_ldc2 (z := 31) C wk225 dX5_digest_185 (by decide) ?_
              refine v_lload_n C 1 dX5_digest_188 rfl ?_
              refine v_lmul C dX5_digest_189 ?_
              refine v_aload_n C 3 dX5_digest_190 rfl ?_
              refine v_getf C (by omega) (by omega) ct_mod rfl 1 (by decide) wf13 hinX5 rfl dX5_digest_191 ?_
              refine v_bipush C dX5_digest_194 (by decide) ?_
              refine v_iload_n C 2 dX5_digest_196 rfl ?_
              refine v_imul C dX5_digest_197 ?_
              refine v_iload C 0 dX5_digest_198 rfl ?_
              refine v_iadd C dX5_digest_200 ?_
              refine v_iaload C (by omega) (by omega) ct_mitems (by omega) (by omega) (by decide) dX5_digest_201 ?_
              refine v_i2l C dX5_digest_202 (HM.it _) ?_
              refine v_ladd C dX5_digest_203 ?_
              refine v_st (st' := [.long (lI (hf (31 * rf (hf (hf (hf (hf 17 (cn (g 6) (g 1) (g 4) (g 9)) 10) (fun k => g 6 (6 + k)) (g 6 1)) (fun k => bh (g 6) (k / 5) (k % 5)) (5 * g 6 0)) (fun k => if g 9 k = 0 then -1 else g 8 (98 * k + 4)) 3) (g 1) (fun u9 j9 => g 2 (40 * u9 + j9)) t + g 1 t) ((fun u9 j9 => g 2 (40 * u9 + j9)) t) (y + 1)))]) (by rw [hf_s _ _ (by omega)]) ?_
              refine v_lstore_n (lv' := [(1, .long (lI (hf (31 * rf (hf (hf (hf (hf 17 (cn (g 6) (g 1) (g 4) (g 9)) 10) (fun k => g 6 (6 + k)) (g 6 1)) (fun k => bh (g 6) (k / 5) (k % 5)) (5 * g 6 0)) (fun k => if g 9 k = 0 then -1 else g 8 (98 * k + 4)) 3) (g 1) (fun u9 j9 => g 2 (40 * u9 + j9)) t + g 1 t) ((fun u9 j9 => g 2 (40 * u9 + j9)) t) (y + 1)))), (4, .int (iI (y))), (3, .int (iI (t))), (0, .ref (a (0)))]) C dX5_digest_204 (by decide) rfl ?_
              refine v_iinc (z' := y + 1) (lv' := [(4, .int (iI (y + 1))), (1, .long (lI (hf (31 * rf (hf (hf (hf (hf 17 (cn (g 6) (g 1) (g 4) (g 9)) 10) (fun k => g 6 (6 + k)) (g 6 1)) (fun k => bh (g 6) (k / 5) (k % 5)) (5 * g 6 0)) (fun k => if g 9 k = 0 then -1 else g 8 (98 * k + 4)) 3) (g 1) (fun u9 j9 => g 2 (40 * u9 + j9)) t + g 1 t) ((fun u9 j9 => g 2 (40 * u9 + j9)) t) (y + 1)))), (3, .int (iI (t))), (0, .ref (a (0)))]) C 1 dX5_digest_205 rfl (by omega) (by decide) rfl ?_
              refine v_goto (tgt := 174) C dX5_digest_208 (by decide) ?_
              exact ih174 (y + 1) (by omega) (by omega)
        · skip
          have hs := HM.kp (k := t) (by omega) (by omega)
          have hkr : g 9 t = 1 → 0 ≤ g 8 (98 * t + 4) ∧ g 8 (98 * t + 4) ≤ 60 := fun h => by have := (HM.FK (k := t) (by omega) (by omega) h).1.n; omega
          refine v_ldc2 (z := 31) C wk225 dX5_digest_111 (by decide) ?_
          refine v_lload_n C 1 dX5_digest_114 rfl ?_
          refine v_lmul C dX5_digest_115 ?_
          refine v_cut1 140 (fun (v140 : Int) => v140 = if g 9 t = 0 then -1 else g 8 (98 * t + 4)) (fun (v140 : Int) => [(3, .int (iI (t))), (1, .long (lI (hf (hf (hf (hf 17 (cn (g 6) (g 1) (g 4) (g 9)) 10) (fun k => g 6 (6 + k)) (g 6 1)) (fun k => bh (g 6) (k / 5) (k % 5)) (5 * g 6 0)) (fun k => if g 9 k = 0 then -1 else g 8 (98 * k + 4)) t))), (0, .ref (a (0)))]) (fun (v140 : Int) => [.int (iI (v140)), .long (lI (31 * (hf (hf (hf (hf 17 (cn (g 6) (g 1) (g 4) (g 9)) 10) (fun k => g 6 (6 + k)) (g 6 1)) (fun k => bh (g 6) (k / 5) (k % 5)) (5 * g 6 0)) (fun k => if g 9 k = 0 then -1 else g 8 (98 * k + 4)) t)))]) (fun (v140 : Int) => g) ?_ ?_
          · intro v140 hj140
            try dsimp only
            have hv140 : -1 ≤ v140 ∧ v140 ≤ 60 := by rw [hj140]; split <;> omega
            refine v_i2l C dX5_digest_140 (by omega) ?_
            refine v_ladd C dX5_digest_141 ?_
            refine v_st (st' := [.long (lI (hf (hf (hf (hf 17 (cn (g 6) (g 1) (g 4) (g 9)) 10) (fun k => g 6 (6 + k)) (g 6 1)) (fun k => bh (g 6) (k / 5) (k % 5)) (5 * g 6 0)) (fun k => if g 9 k = 0 then -1 else g 8 (98 * k + 4)) (t + 1)))]) (by rw [hf_s _ _ (by omega), hj140]) ?_
            refine v_lstore_n (lv' := [(1, .long (lI (hf (hf (hf (hf 17 (cn (g 6) (g 1) (g 4) (g 9)) 10) (fun k => g 6 (6 + k)) (g 6 1)) (fun k => bh (g 6) (k / 5) (k % 5)) (5 * g 6 0)) (fun k => if g 9 k = 0 then -1 else g 8 (98 * k + 4)) (t + 1)))), (3, .int (iI (t))), (0, .ref (a (0)))]) C dX5_digest_142 (by decide) rfl ?_
            refine v_iinc (z' := t + 1) (lv' := [(3, .int (iI (t + 1))), (1, .long (lI (hf (hf (hf (hf 17 (cn (g 6) (g 1) (g 4) (g 9)) 10) (fun k => g 6 (6 + k)) (g 6 1)) (fun k => bh (g 6) (k / 5) (k % 5)) (5 * g 6 0)) (fun k => if g 9 k = 0 then -1 else g 8 (98 * k + 4)) (t + 1)))), (0, .ref (a (0)))]) C 1 dX5_digest_143 rfl (by omega) (by decide) rfl ?_
            refine v_goto (tgt := 106) C dX5_digest_146 (by decide) ?_
            exact ih106 (t + 1) (by omega) (by omega)
          · intro jn140
            try dsimp only at jn140
            refine v_aload_n C 2 dX5_digest_116 rfl ?_
            refine v_getf C (by omega) (by omega) ct_mod rfl 8 (by decide) wf34 hinX5 rfl dX5_digest_117 ?_
            refine v_iload_n C 0 dX5_digest_120 rfl ?_
            refine v_zaload C (by omega) (by omega) ct_misKept (by omega) (by omega) (by decide) dX5_digest_121 ?_
            refine v_if_eq (tgt := 139) C dX5_digest_122 (by decide) (by omega) (fun c122 => ?_) (fun c122 => ?_)
            · skip
              refine v_iconst C dX5_digest_139 ?_
              exact jn140 (-1) (by first | rw [if_pos (by omega)] | rw [if_neg (by omega)])
            · skip
              refine v_aload_n C 2 dX5_digest_125 rfl ?_
              refine v_getf C (by omega) (by omega) ct_mod rfl 7 (by decide) wf31 hinX5 rfl dX5_digest_126 ?_
              refine v_bipush C dX5_digest_129 (by decide) ?_
              refine v_iload_n C 0 dX5_digest_131 rfl ?_
              refine v_imul C dX5_digest_132 ?_
              refine v_iconst C dX5_digest_133 ?_
              refine v_iadd C dX5_digest_134 ?_
              refine v_iaload C (by omega) (by omega) ct_mkept (by omega) (by omega) (by decide) dX5_digest_135 ?_
              refine v_goto (tgt := 140) C dX5_digest_136 (by decide) ?_
              exact jn140 (g (8) ((98 * t) + 4)) (by first | rw [if_pos (by omega)] | rw [if_neg (by omega)])
      · skip
        refine v_ldc2 (z := 31) C wk225 dX5_digest_80 (by decide) ?_
        refine v_lload_n C 1 dX5_digest_83 rfl ?_
        refine v_lmul C dX5_digest_84 ?_
        refine v_aload_n C 2 dX5_digest_85 rfl ?_
        refine v_iload_n C 0 dX5_digest_86 rfl ?_
        refine v_iconst C dX5_digest_87 ?_
        refine v_idiv C dX5_digest_88 (by omega) (by omega) (by omega) (by omega) ?_
        refine v_iload_n C 0 dX5_digest_89 rfl ?_
        refine v_iconst C dX5_digest_90 ?_
        refine v_irem C dX5_digest_91 (by omega) (by omega) (by omega) (by omega) ?_
        refine v_cV_i C (As := [.int (iI (t / 5)), .int (iI (t % 5))]) (rest := [.long (lI (31 * (hf (hf (hf 17 (cn (g 6) (g 1) (g 4) (g 9)) 10) (fun k => g 6 (6 + k)) (g 6 1)) (fun k => bh (g 6) (k / 5) (k % 5)) t)))]) (c_X5_beastHas l D yc t1 t2 a A g (t / 5) (t % 5) (by omega) (by omega) HI) (cwV 2 C.hts gX5_digest_X5_beastHas rfl rfl rfl (by decide +kernel) ⟨by decide, by decide⟩) (fun H hP => va_recv C.hK hP (ci := 5) (q0 := (0 : Int).toNat) rfl (wo_is (by omega) (by omega) ct_mod)) rfl rfl (Nat.le_of_ble_eq_true rfl) dX5_digest_92 ?_
        intro r9 g9 h9
        rw [h9.1, h9.2]
        clear h9 g9 r9
        try dsimp only
        refine v_st (st' := [.int (iI (bh (g 6) (t / 5) (t % 5))), .long (lI (31 * (hf (hf (hf 17 (cn (g 6) (g 1) (g 4) (g 9)) 10) (fun k => g 6 (6 + k)) (g 6 1)) (fun k => bh (g 6) (k / 5) (k % 5)) t)))]) rfl ?_
        refine v_i2l C dX5_digest_95 (by have := bh_bd HI (i := t / 5) (k := t % 5) (by omega) (by omega) (by omega); omega) ?_
        refine v_ladd C dX5_digest_96 ?_
        refine v_st (st' := [.long (lI (hf (hf (hf 17 (cn (g 6) (g 1) (g 4) (g 9)) 10) (fun k => g 6 (6 + k)) (g 6 1)) (fun k => bh (g 6) (k / 5) (k % 5)) (t + 1)))]) (by rw [hf_s _ _ (by omega)]) ?_
        refine v_lstore_n (lv' := [(1, .long (lI (hf (hf (hf 17 (cn (g 6) (g 1) (g 4) (g 9)) 10) (fun k => g 6 (6 + k)) (g 6 1)) (fun k => bh (g 6) (k / 5) (k % 5)) (t + 1)))), (3, .int (iI (t))), (0, .ref (a (0)))]) C dX5_digest_97 (by decide) rfl ?_
        refine v_iinc (z' := t + 1) (lv' := [(3, .int (iI (t + 1))), (1, .long (lI (hf (hf (hf 17 (cn (g 6) (g 1) (g 4) (g 9)) 10) (fun k => g 6 (6 + k)) (g 6 1)) (fun k => bh (g 6) (k / 5) (k % 5)) (t + 1)))), (0, .ref (a (0)))]) C 1 dX5_digest_98 rfl (by omega) (by decide) rfl ?_
        refine v_goto (tgt := 68) C dX5_digest_101 (by decide) ?_
        exact ih68 (t + 1) (by omega) (by omega)
    · skip
      refine v_ldc2 (z := 31) C wk225 dX5_digest_43 (by decide) ?_
      refine v_lload_n C 1 dX5_digest_46 rfl ?_
      refine v_lmul C dX5_digest_47 ?_
      refine v_aload_n C 2 dX5_digest_48 rfl ?_
      refine v_getf C (by omega) (by omega) ct_mod rfl 5 (by decide) wf25 hinX5 rfl dX5_digest_49 ?_
      refine v_bipush C dX5_digest_52 (by decide) ?_
      refine v_iload_n C 0 dX5_digest_54 rfl ?_
      refine v_iadd C dX5_digest_55 ?_
      refine v_iaload C (by omega) (by omega) ct_mnow (by omega) (by omega) (by decide) dX5_digest_56 ?_
      refine v_i2l C dX5_digest_57 (by have := HI.t (j := t) (by omega) (by omega); omega) ?_
      refine v_ladd C dX5_digest_58 ?_
      refine v_st (st' := [.long (lI (hf (hf 17 (cn (g 6) (g 1) (g 4) (g 9)) 10) (fun k => g 6 (6 + k)) (t + 1)))]) (by rw [hf_s _ _ (by omega)]) ?_
      refine v_lstore_n (lv' := [(1, .long (lI (hf (hf 17 (cn (g 6) (g 1) (g 4) (g 9)) 10) (fun k => g 6 (6 + k)) (t + 1)))), (3, .int (iI (t))), (0, .ref (a (0)))]) C dX5_digest_59 (by decide) rfl ?_
      refine v_iinc (z' := t + 1) (lv' := [(3, .int (iI (t + 1))), (1, .long (lI (hf (hf 17 (cn (g 6) (g 1) (g 4) (g 9)) 10) (fun k => g 6 (6 + k)) (t + 1)))), (0, .ref (a (0)))]) C 1 dX5_digest_60 rfl (by omega) (by decide) rfl ?_
      refine v_goto (tgt := 33) C dX5_digest_63 (by decide) ?_
      exact ih33 (t + 1) (by omega) (by omega)
  · skip
    refine v_ldc2 (z := 31) C wk225 dX5_digest_12 (by decide) ?_
    refine v_lload_n C 1 dX5_digest_15 rfl ?_
    refine v_lmul C dX5_digest_16 ?_
    refine v_aload_n C 2 dX5_digest_17 rfl ?_
    refine v_iload_n C 0 dX5_digest_18 rfl ?_
    refine v_cV_i C (As := [.int (iI (t))]) (rest := [.long (lI (31 * (hf 17 (cn (g 6) (g 1) (g 4) (g 9)) t)))]) (c_X5_count l D yc t1 t2 a A g t (by omega) HM) (cwV 1 C.hts gX5_digest_X5_count rfl rfl rfl (by decide +kernel) ⟨by decide, by decide⟩) (fun H hP => va_recv C.hK hP (ci := 5) (q0 := (0 : Int).toNat) rfl (wo_is (by omega) (by omega) ct_mod)) rfl rfl (Nat.le_of_ble_eq_true rfl) dX5_digest_19 ?_
    intro r9 g9 h9
    rw [h9.1, h9.2]
    clear h9 g9 r9
    try dsimp only
    refine v_i2l C dX5_digest_22 (by have := cn_bd (sz := g 1) (ln := g 4) (kp := g 9) HI t; omega) ?_
    refine v_ladd C dX5_digest_23 ?_
    refine v_st (st' := [.long (lI (hf 17 (cn (g 6) (g 1) (g 4) (g 9)) (t + 1)))]) (by rw [hf_s _ _ (by omega)]) ?_
    refine v_lstore_n (lv' := [(1, .long (lI (hf 17 (cn (g 6) (g 1) (g 4) (g 9)) (t + 1)))), (3, .int (iI (t))), (0, .ref (a (0)))]) C dX5_digest_24 (by decide) rfl ?_
    refine v_iinc (z' := t + 1) (lv' := [(3, .int (iI (t + 1))), (1, .long (lI (hf 17 (cn (g 6) (g 1) (g 4) (g 9)) (t + 1)))), (0, .ref (a (0)))]) C 1 dX5_digest_25 rfl (by omega) (by decide) rfl ?_
    refine v_goto (tgt := 6) C dX5_digest_28 (by decide) ?_
    exact ih6 (t + 1) (by omega) (by omega)
