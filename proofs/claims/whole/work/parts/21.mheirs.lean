set_option maxRecDepth 100000 in
set_option maxHeartbeats 4000000 in
theorem c_X5_heirs (l : Launch) (D : va_G) (yc : Nat → ClassId) (t1 t2 : Nat) (a : Int → Nat) (A : Nat → Prop) (g : Mm)  (HI : FI (g 6)) : Ci l yX5_heirs wsX5_heirs { frames := 2, cells := 0, slots := 0, locals := 44 } D yc t1 t2 A (mw a yc) [.ref (a (0))] g (fun r9 g' => r9 = (iI (if g 6 0 = 0 then -4 else hg (g 6) (ab (hgB (g 6)) (p3 (g 6 0) - 1).toNat))) ∧ g' = (if g 6 0 = 0 then g else mu (m3 g (hs (g 6) (p3 (g 6 0) - 1) 0 (g 6 0)) (hs (g 6) (p3 (g 6 0) - 1) 1 (g 6 0)) (hs (g 6) (p3 (g 6 0) - 1) 2 (g 6 0))) 0 11 (ab (hgB (g 6)) (p3 (g 6 0) - 1).toNat))) := by
  refine start_i (cc := cX5_heirs) (nL := 9) (ret := (some .int)) (own := RX5) (by decide +kernel) rfl rfl (Nat.le_of_ble_eq_true rfl) ?_
  intro p e s m9 below meth c9 C
  have wf25 : Cond.fieldLink RX5 25 (TX5 5).1 (TX5 5).2.1 (TX5 5).2.2.1 ∈ wsX5_heirs := by decide +kernel
  have hinX5 : ∀ w ∈ u_ws RX5 TX5 17, w ∈ wsX5_heirs := by decide +kernel
  have wf41 : Cond.fieldLink RX5 41 (TX5 14).1 (TX5 14).2.1 (TX5 14).2.2.1 ∈ wsX5_heirs := by decide +kernel
  have hn := HI.n
  refine v_lv (lv' := [(0, .ref (a (0)))]) rfl ?_
  refine v_aload_n C 0 dX5_heirs_0 rfl ?_
  refine v_cV_i C (As := []) (rest := []) (c_X5_are l D yc t1 t2 a A g HI) (cwV 0 C.hts gX5_heirs_X5_are rfl rfl rfl (by decide +kernel) ⟨by decide, by decide⟩) (fun H hP => va_recv C.hK hP (ci := 5) (q0 := (0 : Int).toNat) rfl (wo_is (by omega) (by omega) ct_mod)) rfl rfl (Nat.le_of_ble_eq_true rfl) dX5_heirs_1 ?_
  intro r9 g9 h9
  rw [h9.1, h9.2]
  clear h9 g9 r9
  try dsimp only
  refine v_ifb_ne (tgt := 10) C dX5_heirs_4 (by decide) (fun c4 => ?_) (fun c4 => ?_)
  · skip
    refine v_iconst C dX5_heirs_10 ?_
    refine v_istore_n (lv' := [(1, .int (iI (1))), (0, .ref (a (0)))]) C dX5_heirs_11 (by decide) rfl ?_
    refine v_iconst C dX5_heirs_12 ?_
    refine v_istore_n (lv' := [(2, .int (iI (0))), (1, .int (iI (1))), (0, .ref (a (0)))]) C dX5_heirs_13 (by decide) rfl ?_
    refine v_lv (congrArg (fun x9 => ([(2, .int (iI x9)), (1, .int (iI (1))), (0, .ref (a (0)))] : List (Nat × Value))) (show (0) = (((0 : Int))) by first | rfl | omega | (simp; done))) ?_
    refine v_lv (congrArg (fun x9 => ([(2, .int (iI (((0 : Int))))), (1, .int (iI x9)), (0, .ref (a (0)))] : List (Nat × Value))) (show (1) = (p3 ((0 : Int))) by first | rfl | omega | (simp; done))) ?_
    refine v_loop1 (fun (x : Int) => (g 6 0 - x).toNat) (fun (x : Int) => 0 ≤ x ∧ x ≤ g 6 0) (fun (x : Int) => [(2, .int (iI (x))), (1, .int (iI (p3 x))), (0, .ref (a (0)))]) (fun (x : Int) => g) ?_ 0 (by omega)
    intro x hI14 ih14
    try dsimp only at ih14 ⊢
    refine v_iload_n C 0 dX5_heirs_14 rfl ?_
    refine v_aload_n C 2 dX5_heirs_15 rfl ?_
    refine v_getf C (by omega) (by omega) ct_mod rfl 5 (by decide) wf25 hinX5 rfl dX5_heirs_16 ?_
    refine v_iconst C dX5_heirs_19 ?_
    refine v_iaload C (by omega) (by omega) ct_mnow (by omega) (by omega) (by decide) dX5_heirs_20 ?_
    refine v_icmp_ge (tgt := 34) C dX5_heirs_21 (by decide) (by omega) (by omega) (fun c21 => ?_) (fun c21 => ?_)
    · skip
      have hpp := p3_tab (i := g 6 0) (by omega) (by omega)
      have htt : x = g 6 0 := by omega
      refine v_lv (congrArg (fun x9 => ([(2, .int (iI (x))), (1, .int (iI x9)), (0, .ref (a (0)))] : List (Nat × Value))) (show (p3 x) = (p3 (g 6 0)) by rw [htt])) ?_
      refine v_iconst C dX5_heirs_34 ?_
      refine v_istore_n (lv' := [(2, .int (iI (0))), (1, .int (iI (p3 (g 6 0)))), (0, .ref (a (0)))]) C dX5_heirs_35 (by decide) rfl ?_
      refine v_iconst C dX5_heirs_36 ?_
      refine v_istore_n (lv' := [(3, .int (iI (-1))), (2, .int (iI (0))), (1, .int (iI (p3 (g 6 0)))), (0, .ref (a (0)))]) C dX5_heirs_37 (by decide) rfl ?_
      refine v_iconst C dX5_heirs_38 ?_
      refine v_istore (lv' := [(4, .int (iI (0))), (3, .int (iI (-1))), (2, .int (iI (0))), (1, .int (iI (p3 (g 6 0)))), (0, .ref (a (0)))]) C dX5_heirs_39 (by decide) rfl ?_
      refine v_g (g' := (mu (mu (mu g (11) (0) (g 11 0)) (11) (1) (g 11 1)) (11) (2) (g 11 2))) (m3_self g).symm ?_
      refine v_lv (congrArg (fun x9 => ([(4, .int (iI x9)), (3, .int (iI (-1))), (2, .int (iI (0))), (1, .int (iI (p3 (g 6 0)))), (0, .ref (a (0)))] : List (Nat × Value))) (show (0) = (((0 : Int))) by first | rfl | omega | (simp; done))) ?_
      refine v_lv (congrArg (fun x9 => ([(4, .int (iI (((0 : Int))))), (3, .int (iI (-1))), (2, .int (iI x9)), (1, .int (iI (p3 (g 6 0)))), (0, .ref (a (0)))] : List (Nat × Value))) (show (0) = (ab (hgB (g 6)) (((0 : Int)) - 1).toNat) by first | rfl | omega | (simp; done))) ?_
      refine v_loop5 (fun (t : Int) (w : Int) (y0 : Int) (y1 : Int) (y2 : Int) => (p3 (g 6 0) - t).toNat) (fun (t : Int) (w : Int) (y0 : Int) (y1 : Int) (y2 : Int) => 0 ≤ t ∧ t ≤ p3 (g 6 0) ∧ ((t = 0 ∧ w = -1) ∨ (0 < t ∧ w = hg (g 6) (ab (hgB (g 6)) (t - 1).toNat))) ∧ (0 < t → y0 = hs (g 6) (t - 1) 0 (g 6 0) ∧ y1 = hs (g 6) (t - 1) 1 (g 6 0) ∧ y2 = hs (g 6) (t - 1) 2 (g 6 0))) (fun (t : Int) (w : Int) (y0 : Int) (y1 : Int) (y2 : Int) => [(4, .int (iI (t))), (3, .int (iI (w))), (2, .int (iI (ab (hgB (g 6)) (t - 1).toNat))), (1, .int (iI (p3 (g 6 0)))), (0, .ref (a (0)))]) (fun (t : Int) (w : Int) (y0 : Int) (y1 : Int) (y2 : Int) => (mu (mu (mu g (11) (0) (y0)) (11) (1) (y1)) (11) (2) (y2))) ?_ 0 (-1) (g 11 0) (g 11 1) (g 11 2) ⟨by omega, by omega, Or.inl ⟨rfl, rfl⟩, fun h => absurd h (by omega)⟩
      intro t w y0 y1 y2 hI41 ih41
      try dsimp only at ih41 ⊢
      refine v_iload C 0 dX5_heirs_41 rfl ?_
      refine v_iload_n C 3 dX5_heirs_43 rfl ?_
      refine v_icmp_ge (tgt := 283) C dX5_heirs_44 (by decide) (by omega) (by omega) (fun c44 => ?_) (fun c44 => ?_)
      · skip
        have htp : t = p3 (g 6 0) := by omega
        have hw : w = hg (g 6) (ab (hgB (g 6)) (p3 (g 6 0) - 1).toNat) := by have := hI41.2.2.1; rw [htp] at this; omega
        refine v_lv (congrArg (fun x9 => ([(4, .int (iI (t))), (3, .int (iI (w))), (2, .int (iI x9)), (1, .int (iI (p3 (g 6 0)))), (0, .ref (a (0)))] : List (Nat × Value))) (show (ab (hgB (g 6)) (t - 1).toNat) = ((ab (hgB (g 6)) (p3 (g 6 0) - 1).toNat)) by rw [htp])) ?_
        refine v_aload_n C 4 dX5_heirs_283 rfl ?_
        refine v_iload_n C 1 dX5_heirs_284 rfl ?_
        refine v_iload_n C 2 dX5_heirs_285 rfl ?_
        refine v_cV_i C (As := [.int (iI (w)), .int (iI ((ab (hgB (g 6)) (p3 (g 6 0) - 1).toNat)))]) (rest := []) (c_X5_tells l D yc t1 t2 a A (mu (mu (mu g (11) (0) (y0)) (11) (1) (y1)) (11) (2) (y2)) w ((ab (hgB (g 6)) (p3 (g 6 0) - 1).toNat))) (cwV 2 C.hts gX5_heirs_X5_tells rfl rfl rfl (by decide +kernel) ⟨by decide, by decide⟩) (fun H hP => va_recv C.hK hP (ci := 5) (q0 := (0 : Int).toNat) rfl (wo_is (by omega) (by omega) ct_mod)) rfl rfl (Nat.le_of_ble_eq_true rfl) dX5_heirs_286 ?_
        intro r9 g9 h9
        rw [h9.1, h9.2]
        clear h9 g9 r9
        try dsimp only
        exact v_ret_i C rfl dX5_heirs_289 ⟨(by rw [if_neg (by omega), hw]), (by have h8 := hI41.2.2.2 (by omega); rw [if_neg (by omega), h8.1, h8.2.1, h8.2.2, htp]; rfl)⟩
      · skip
        have hab := ab_r (hgB (g 6)) (t - 1).toNat
        have h0b := hs_bd HI t 0 (t := g 6 0) (by omega) (by omega)
        have h1b := hs_bd HI t 1 (t := g 6 0) (by omega) (by omega)
        have h2b := hs_bd HI t 2 (t := g 6 0) (by omega) (by omega)
        have hgb := hg_bd HI (ab (hgB (g 6)) (t - 1).toNat)
        have hgt := hg_bd HI t
        refine v_aload_n C 4 dX5_heirs_47 rfl ?_
        refine v_getf C (by omega) (by omega) ct_mod rfl 14 (by decide) wf41 hinX5 rfl dX5_heirs_48 ?_
        refine v_iconst C dX5_heirs_51 ?_
        refine v_iconst C dX5_heirs_52 ?_
        refine v_iastore C (ctm_L a yc) (by omega) (by omega) ct_mparts (ct_mparts).symm (by omega) (by omega) (by decide) dX5_heirs_53 ?_
        refine v_aload_n C 4 dX5_heirs_54 rfl ?_
        refine v_getf C (by omega) (by omega) ct_mod rfl 14 (by decide) wf41 hinX5 rfl dX5_heirs_55 ?_
        refine v_iconst C dX5_heirs_58 ?_
        refine v_iconst C dX5_heirs_59 ?_
        refine v_iastore C (ctm_L a yc) (by omega) (by omega) ct_mparts (ct_mparts).symm (by omega) (by omega) (by decide) dX5_heirs_60 ?_
        refine v_aload_n C 4 dX5_heirs_61 rfl ?_
        refine v_getf C (by omega) (by omega) ct_mod rfl 14 (by decide) wf41 hinX5 rfl dX5_heirs_62 ?_
        refine v_iconst C dX5_heirs_65 ?_
        refine v_iconst C dX5_heirs_66 ?_
        refine v_iastore C (ctm_L a yc) (by omega) (by omega) ct_mparts (ct_mparts).symm (by omega) (by omega) (by decide) dX5_heirs_67 ?_
        refine v_iload C 0 dX5_heirs_68 rfl ?_
        refine v_istore (lv' := [(5, .int (iI (t))), (4, .int (iI (t))), (3, .int (iI (w))), (2, .int (iI (ab (hgB (g 6)) (t - 1).toNat))), (1, .int (iI (p3 (g 6 0)))), (0, .ref (a (0)))]) C dX5_heirs_70 (by decide) rfl ?_
        refine v_aload_n C 5 dX5_heirs_72 rfl ?_
        refine v_getf C (by omega) (by omega) ct_mod rfl 5 (by decide) wf25 hinX5 rfl dX5_heirs_73 ?_
        refine v_iconst C dX5_heirs_76 ?_
        refine v_iaload C (by omega) (by omega) ct_mnow (by omega) (by omega) (by decide) dX5_heirs_77 ?_
        refine v_st (st' := [.int (iI (g (6) (0)))]) (by rw [mu_ne (show 6 ≠ 11 by omega), mu_ne (show 6 ≠ 11 by omega), mu_ne (show 6 ≠ 11 by omega), mu_ne (show 6 ≠ 11 by omega), mu_ne (show 6 ≠ 11 by omega), mu_ne (show 6 ≠ 11 by omega)]) ?_
        refine v_iconst C dX5_heirs_78 ?_
        refine v_isub C dX5_heirs_79 ?_
        refine v_istore (lv' := [(6, .int (iI ((g (6) (0)) - 1))), (5, .int (iI (t))), (4, .int (iI (t))), (3, .int (iI (w))), (2, .int (iI (ab (hgB (g 6)) (t - 1).toNat))), (1, .int (iI (p3 (g 6 0)))), (0, .ref (a (0)))]) C dX5_heirs_80 (by decide) rfl ?_
        refine v_g (g' := (mu (mu (mu g (11) (0) (hs (g 6) t 0 0)) (11) (1) (hs (g 6) t 1 0)) (11) (2) (hs (g 6) t 2 0))) (m3_m3 g y0 y1 y2 0 0 0) ?_
        refine v_lv (congrArg (fun x9 => ([(6, .int (iI x9)), (5, .int (iI (t))), (4, .int (iI (t))), (3, .int (iI (w))), (2, .int (iI (ab (hgB (g 6)) (t - 1).toNat))), (1, .int (iI (p3 (g 6 0)))), (0, .ref (a (0)))] : List (Nat × Value))) (show ((g (6) (0)) - 1) = (g 6 0 - 1 - ((0 : Int))) by first | rfl | omega | (simp; done))) ?_
        refine v_lv (congrArg (fun x9 => ([(6, .int (iI (g 6 0 - 1 - ((0 : Int))))), (5, .int (iI x9)), (4, .int (iI (t))), (3, .int (iI (w))), (2, .int (iI (ab (hgB (g 6)) (t - 1).toNat))), (1, .int (iI (p3 (g 6 0)))), (0, .ref (a (0)))] : List (Nat × Value))) (show (t) = (t / p3 ((0 : Int))) by show t = t / 1; omega)) ?_
        refine v_loop1 (fun (x : Int) => (g 6 0 - x).toNat) (fun (x : Int) => 0 ≤ x ∧ x ≤ g 6 0) (fun (x : Int) => [(6, .int (iI (g 6 0 - 1 - x))), (5, .int (iI (t / p3 x))), (4, .int (iI (t))), (3, .int (iI (w))), (2, .int (iI (ab (hgB (g 6)) (t - 1).toNat))), (1, .int (iI (p3 (g 6 0)))), (0, .ref (a (0)))]) (fun (x : Int) => (mu (mu (mu g (11) (0) (hs (g 6) t 0 x)) (11) (1) (hs (g 6) t 1 x)) (11) (2) (hs (g 6) t 2 x))) ?_ 0 (by omega)
        intro x hI82 ih82
        try dsimp only at ih82 ⊢
        refine v_iload C 0 dX5_heirs_82 rfl ?_
        refine v_if_lt (tgt := 118) C dX5_heirs_84 (by decide) (by omega) (fun c84 => ?_) (fun c84 => ?_)
        · skip
          have hxx : x = g 6 0 := by omega
          refine v_g (g' := (mu (mu (mu g (11) (0) (hs (g 6) t 0 (g 6 0))) (11) (1) (hs (g 6) t 1 (g 6 0))) (11) (2) (hs (g 6) t 2 (g 6 0)))) (by first | rfl | rw [hxx]) ?_
          refine v_cut1 148 (fun (v148 : Int) => v148 = max (hs (g 6) t 0 (g 6 0)) (hs (g 6) t 1 (g 6 0))) (fun (v148 : Int) => [(6, .int (iI (g 6 0 - 1 - x))), (5, .int (iI (t / p3 x))), (4, .int (iI (t))), (3, .int (iI (w))), (2, .int (iI (ab (hgB (g 6)) (t - 1).toNat))), (1, .int (iI (p3 (g 6 0)))), (0, .ref (a (0)))]) (fun (v148 : Int) => [.int (iI (v148))]) (fun (v148 : Int) => (mu (mu (mu g (11) (0) (hs (g 6) t 0 (g 6 0))) (11) (1) (hs (g 6) t 1 (g 6 0))) (11) (2) (hs (g 6) t 2 (g 6 0)))) ?_ ?_
          · intro v148 hj148
            try dsimp only
            refine v_istore (lv' := [(6, .int (iI (v148))), (5, .int (iI (t / p3 x))), (4, .int (iI (t))), (3, .int (iI (w))), (2, .int (iI (ab (hgB (g 6)) (t - 1).toNat))), (1, .int (iI (p3 (g 6 0)))), (0, .ref (a (0)))]) C dX5_heirs_148 (by decide) rfl ?_
            refine v_cut1 172 (fun (v172 : Int) => v172 = max (max (hs (g 6) t 0 (g 6 0)) (hs (g 6) t 1 (g 6 0))) (hs (g 6) t 2 (g 6 0))) (fun (v172 : Int) => [(6, .int (iI (v148))), (5, .int (iI (t / p3 x))), (4, .int (iI (t))), (3, .int (iI (w))), (2, .int (iI (ab (hgB (g 6)) (t - 1).toNat))), (1, .int (iI (p3 (g 6 0)))), (0, .ref (a (0)))]) (fun (v172 : Int) => [.int (iI (v172))]) (fun (v172 : Int) => (mu (mu (mu g (11) (0) (hs (g 6) t 0 (g 6 0))) (11) (1) (hs (g 6) t 1 (g 6 0))) (11) (2) (hs (g 6) t 2 (g 6 0)))) ?_ ?_
            · intro v172 hj172
              try dsimp only
              refine v_istore (lv' := [(6, .int (iI (v172))), (5, .int (iI (t / p3 x))), (4, .int (iI (t))), (3, .int (iI (w))), (2, .int (iI (ab (hgB (g 6)) (t - 1).toNat))), (1, .int (iI (p3 (g 6 0)))), (0, .ref (a (0)))]) C dX5_heirs_172 (by decide) rfl ?_
              refine v_cut1 204 (fun (v204 : Int) => v204 = min (hs (g 6) t 0 (g 6 0)) (hs (g 6) t 1 (g 6 0))) (fun (v204 : Int) => [(6, .int (iI (v172))), (5, .int (iI (t / p3 x))), (4, .int (iI (t))), (3, .int (iI (w))), (2, .int (iI (ab (hgB (g 6)) (t - 1).toNat))), (1, .int (iI (p3 (g 6 0)))), (0, .ref (a (0)))]) (fun (v204 : Int) => [.int (iI (v204))]) (fun (v204 : Int) => (mu (mu (mu g (11) (0) (hs (g 6) t 0 (g 6 0))) (11) (1) (hs (g 6) t 1 (g 6 0))) (11) (2) (hs (g 6) t 2 (g 6 0)))) ?_ ?_
              · intro v204 hj204
                try dsimp only
                refine v_istore (lv' := [(7, .int (iI (v204))), (6, .int (iI (v172))), (5, .int (iI (t / p3 x))), (4, .int (iI (t))), (3, .int (iI (w))), (2, .int (iI (ab (hgB (g 6)) (t - 1).toNat))), (1, .int (iI (p3 (g 6 0)))), (0, .ref (a (0)))]) C dX5_heirs_204 (by decide) rfl ?_
                refine v_cut1 228 (fun (v228 : Int) => v228 = min (min (hs (g 6) t 0 (g 6 0)) (hs (g 6) t 1 (g 6 0))) (hs (g 6) t 2 (g 6 0))) (fun (v228 : Int) => [(7, .int (iI (v204))), (6, .int (iI (v172))), (5, .int (iI (t / p3 x))), (4, .int (iI (t))), (3, .int (iI (w))), (2, .int (iI (ab (hgB (g 6)) (t - 1).toNat))), (1, .int (iI (p3 (g 6 0)))), (0, .ref (a (0)))]) (fun (v228 : Int) => [.int (iI (v228))]) (fun (v228 : Int) => (mu (mu (mu g (11) (0) (hs (g 6) t 0 (g 6 0))) (11) (1) (hs (g 6) t 1 (g 6 0))) (11) (2) (hs (g 6) t 2 (g 6 0)))) ?_ ?_
                · intro v228 hj228
                  try dsimp only
                  refine v_istore (lv' := [(7, .int (iI (v228))), (6, .int (iI (v172))), (5, .int (iI (t / p3 x))), (4, .int (iI (t))), (3, .int (iI (w))), (2, .int (iI (ab (hgB (g 6)) (t - 1).toNat))), (1, .int (iI (p3 (g 6 0)))), (0, .ref (a (0)))]) C dX5_heirs_228 (by decide) rfl ?_
                  refine v_cut1 248 (fun (v248 : Int) => v248 = if w < 0 ∨ hg (g 6) t < w then 1 else 0) (fun (v248 : Int) => [(7, .int (iI (v228))), (6, .int (iI (v172))), (5, .int (iI (t / p3 x))), (4, .int (iI (t))), (3, .int (iI (w))), (2, .int (iI (ab (hgB (g 6)) (t - 1).toNat))), (1, .int (iI (p3 (g 6 0)))), (0, .ref (a (0)))]) (fun (v248 : Int) => [.int (iI (v248))]) (fun (v248 : Int) => (mu (mu (mu g (11) (0) (hs (g 6) t 0 (g 6 0))) (11) (1) (hs (g 6) t 1 (g 6 0))) (11) (2) (hs (g 6) t 2 (g 6 0)))) ?_ ?_
                  · intro v248 hj248
                    try dsimp only
                    refine v_istore (lv' := [(8, .int (iI (v248))), (7, .int (iI (v228))), (6, .int (iI (v172))), (5, .int (iI (t / p3 x))), (4, .int (iI (t))), (3, .int (iI (w))), (2, .int (iI (ab (hgB (g 6)) (t - 1).toNat))), (1, .int (iI (p3 (g 6 0)))), (0, .ref (a (0)))]) C dX5_heirs_248 (by decide) rfl ?_
                    have hh := heir1 (F := g 6) (by omega) hI41.2.2.1 hj248 hgb.1
                    refine v_cut1 261 (fun (v261 : Int) => v261 = ab (hgB (g 6)) t.toNat) (fun (v261 : Int) => [(8, .int (iI (v248))), (7, .int (iI (v228))), (6, .int (iI (v172))), (5, .int (iI (t / p3 x))), (4, .int (iI (t))), (3, .int (iI (w))), (2, .int (iI (ab (hgB (g 6)) (t - 1).toNat))), (1, .int (iI (p3 (g 6 0)))), (0, .ref (a (0)))]) (fun (v261 : Int) => [.int (iI (v261))]) (fun (v261 : Int) => (mu (mu (mu g (11) (0) (hs (g 6) t 0 (g 6 0))) (11) (1) (hs (g 6) t 1 (g 6 0))) (11) (2) (hs (g 6) t 2 (g 6 0)))) ?_ ?_
                    · intro v261 hj261
                      try dsimp only
                      refine v_st (st' := [.int (iI (ab (hgB (g 6)) (t + 1 - 1).toNat))]) (by rw [hj261, show t + 1 - 1 = t by omega]) ?_
                      refine v_istore_n (lv' := [(2, .int (iI (ab (hgB (g 6)) (t + 1 - 1).toNat))), (8, .int (iI (v248))), (7, .int (iI (v228))), (6, .int (iI (v172))), (5, .int (iI (t / p3 x))), (4, .int (iI (t))), (3, .int (iI (w))), (1, .int (iI (p3 (g 6 0)))), (0, .ref (a (0)))]) C dX5_heirs_261 (by decide) rfl ?_
                      refine v_cut1 276 (fun (v276 : Int) => v276 = hg (g 6) (ab (hgB (g 6)) t.toNat)) (fun (v276 : Int) => [(2, .int (iI (ab (hgB (g 6)) (t + 1 - 1).toNat))), (8, .int (iI (v248))), (7, .int (iI (v228))), (6, .int (iI (v172))), (5, .int (iI (t / p3 x))), (4, .int (iI (t))), (3, .int (iI (w))), (1, .int (iI (p3 (g 6 0)))), (0, .ref (a (0)))]) (fun (v276 : Int) => [.int (iI (v276))]) (fun (v276 : Int) => (mu (mu (mu g (11) (0) (hs (g 6) t 0 (g 6 0))) (11) (1) (hs (g 6) t 1 (g 6 0))) (11) (2) (hs (g 6) t 2 (g 6 0)))) ?_ ?_
                      · intro v276 hj276
                        try dsimp only
                        refine v_istore_n (lv' := [(3, .int (iI (v276))), (2, .int (iI (ab (hgB (g 6)) (t + 1 - 1).toNat))), (8, .int (iI (v248))), (7, .int (iI (v228))), (6, .int (iI (v172))), (5, .int (iI (t / p3 x))), (4, .int (iI (t))), (1, .int (iI (p3 (g 6 0)))), (0, .ref (a (0)))]) C dX5_heirs_276 (by decide) rfl ?_
                        refine v_iinc (z' := t + 1) (lv' := [(4, .int (iI (t + 1))), (3, .int (iI (v276))), (2, .int (iI (ab (hgB (g 6)) (t + 1 - 1).toNat))), (8, .int (iI (v248))), (7, .int (iI (v228))), (6, .int (iI (v172))), (5, .int (iI (t / p3 x))), (1, .int (iI (p3 (g 6 0)))), (0, .ref (a (0)))]) C 6 dX5_heirs_277 rfl (by omega) (by decide) rfl ?_
                        refine v_goto (tgt := 41) C dX5_heirs_280 (by decide) ?_
                        refine v_sub (lv' := [(4, .int (iI (t + 1))), (3, .int (iI (v276))), (2, .int (iI (ab (hgB (g 6)) (t + 1 - 1).toNat))), (1, .int (iI (p3 (g 6 0)))), (0, .ref (a (0)))]) [0, 1, 2, 7, 8] rfl ?_
                        refine v_lv (congrArg (fun x9 => ([(4, .int (iI (t + 1))), (3, .int (iI (v276))), (2, .int (iI x9)), (1, .int (iI (p3 (g 6 0)))), (0, .ref (a (0)))] : List (Nat × Value))) (show (ab (hgB (g 6)) (t + 1 - 1).toNat) = (ab (hgB (g 6)) ((t + 1) - 1).toNat) by first | rfl | (omega))) ?_
                        exact ih41 (t + 1) v276 (hs (g 6) t 0 (g 6 0)) (hs (g 6) t 1 (g 6 0)) (hs (g 6) t 2 (g 6 0)) ⟨by omega, by omega, Or.inr ⟨by omega, by rw [hj276, show t + 1 - 1 = t by omega]⟩, fun _ => by rw [show t + 1 - 1 = t by omega]; exact ⟨rfl, rfl, rfl⟩⟩ (by omega)
                      · intro jn276
                        try dsimp only at jn276
                        refine v_iload C 1 dX5_heirs_262 rfl ?_
                        refine v_if_eq (tgt := 275) C dX5_heirs_264 (by decide) (by omega) (fun c264 => ?_) (fun c264 => ?_)
                        · skip
                          refine v_iload_n C 6 dX5_heirs_275 rfl ?_
                          exact jn276 w (by first | (rw [hh.1 c264, hj172, hj228]; rfl) | (rw [(hh.2 c264).1]; exact (hh.2 c264).2))
                        · skip
                          refine v_iload C 3 dX5_heirs_267 rfl ?_
                          refine v_iload C 2 dX5_heirs_269 rfl ?_
                          refine v_isub C dX5_heirs_271 ?_
                          refine v_goto (tgt := 276) C dX5_heirs_272 (by decide) ?_
                          exact jn276 (v172 - v228) (by first | (rw [hh.1 c264, hj172, hj228]; rfl) | (rw [(hh.2 c264).1]; exact (hh.2 c264).2))
                    · intro jn261
                      try dsimp only at jn261
                      have hh := heir1 (F := g 6) (by omega) hI41.2.2.1 hj248 hgb.1
                      refine v_iload C 0 dX5_heirs_250 rfl ?_
                      refine v_if_eq (tgt := 260) C dX5_heirs_252 (by decide) (by omega) (fun c252 => ?_) (fun c252 => ?_)
                      · skip
                        refine v_iload_n C 6 dX5_heirs_260 rfl ?_
                        exact jn261 (ab (hgB (g 6)) (t - 1).toNat) (by first | exact (hh.1 c252).symm | exact (hh.2 c252).1.symm)
                      · skip
                        refine v_iload C 4 dX5_heirs_255 rfl ?_
                        refine v_goto (tgt := 261) C dX5_heirs_257 (by decide) ?_
                        exact jn261 t (by first | exact (hh.1 c252).symm | exact (hh.2 c252).1.symm)
                  · intro jn248
                    try dsimp only at jn248
                    refine v_iload_n C 4 dX5_heirs_230 rfl ?_
                    refine v_if_lt (tgt := 243) C dX5_heirs_231 (by decide) (by omega) (fun c231 => ?_) (fun c231 => ?_)
                    · skip
                      refine v_iconst C dX5_heirs_243 ?_
                      refine v_goto (tgt := 248) C dX5_heirs_244 (by decide) ?_
                      exact jn248 1 (by unfold hg at *; first | rw [if_pos (by omega)] | rw [if_neg (by omega)])
                    · skip
                      refine v_iload C 1 dX5_heirs_234 rfl ?_
                      refine v_iload C 0 dX5_heirs_236 rfl ?_
                      refine v_isub C dX5_heirs_238 ?_
                      refine v_iload_n C 4 dX5_heirs_239 rfl ?_
                      refine v_icmp_ge (tgt := 247) C dX5_heirs_240 (by decide) (by omega) (by omega) (fun c240 => ?_) (fun c240 => ?_)
                      · skip
                        refine v_iconst C dX5_heirs_247 ?_
                        exact jn248 0 (by unfold hg at *; first | rw [if_pos (by omega)] | rw [if_neg (by omega)])
                      · skip
                        refine v_iconst C dX5_heirs_243 ?_
                        refine v_goto (tgt := 248) C dX5_heirs_244 (by decide) ?_
                        exact jn248 1 (by unfold hg at *; first | rw [if_pos (by omega)] | rw [if_neg (by omega)])
                · intro jn228
                  try dsimp only at jn228
                  refine v_iload C 0 dX5_heirs_206 rfl ?_
                  refine v_aload_n C 7 dX5_heirs_208 rfl ?_
                  refine v_getf C (by omega) (by omega) ct_mod rfl 14 (by decide) wf41 hinX5 rfl dX5_heirs_209 ?_
                  refine v_iconst C dX5_heirs_212 ?_
                  refine v_iaload C (by omega) (by omega) ct_mparts (by omega) (by omega) (by decide) dX5_heirs_213 ?_
                  refine v_st (st' := [.int (iI (hs (g 6) t 2 (g 6 0))), .int (iI (v204))]) (by rw [mu_at]) ?_
                  refine v_icmp_ge (tgt := 222) C dX5_heirs_214 (by decide) (by omega) (by omega) (fun c214 => ?_) (fun c214 => ?_)
                  · skip
                    refine v_aload_n C 7 dX5_heirs_222 rfl ?_
                    refine v_getf C (by omega) (by omega) ct_mod rfl 14 (by decide) wf41 hinX5 rfl dX5_heirs_223 ?_
                    refine v_iconst C dX5_heirs_226 ?_
                    refine v_iaload C (by omega) (by omega) ct_mparts (by omega) (by omega) (by decide) dX5_heirs_227 ?_
                    refine v_st (st' := [.int (iI (hs (g 6) t 2 (g 6 0)))]) (by rw [mu_at]) ?_
                    exact jn228 (hs (g 6) t 2 (g 6 0)) (by omega)
                  · skip
                    refine v_iload C 0 dX5_heirs_217 rfl ?_
                    refine v_goto (tgt := 228) C dX5_heirs_219 (by decide) ?_
                    exact jn228 v204 (by omega)
              · intro jn204
                try dsimp only at jn204
                refine v_aload_n C 6 dX5_heirs_174 rfl ?_
                refine v_getf C (by omega) (by omega) ct_mod rfl 14 (by decide) wf41 hinX5 rfl dX5_heirs_175 ?_
                refine v_iconst C dX5_heirs_178 ?_
                refine v_iaload C (by omega) (by omega) ct_mparts (by omega) (by omega) (by decide) dX5_heirs_179 ?_
                refine v_st (st' := [.int (iI (hs (g 6) t 0 (g 6 0)))]) (by rw [mu_nj (show (0 : Int) ≠ 2 by omega), mu_nj (show (0 : Int) ≠ 1 by omega), mu_at]) ?_
                refine v_aload_n C 6 dX5_heirs_180 rfl ?_
                refine v_getf C (by omega) (by omega) ct_mod rfl 14 (by decide) wf41 hinX5 rfl dX5_heirs_181 ?_
                refine v_iconst C dX5_heirs_184 ?_
                refine v_iaload C (by omega) (by omega) ct_mparts (by omega) (by omega) (by decide) dX5_heirs_185 ?_
                refine v_st (st' := [.int (iI (hs (g 6) t 1 (g 6 0))), .int (iI (hs (g 6) t 0 (g 6 0)))]) (by rw [mu_nj (show (1 : Int) ≠ 2 by omega), mu_at]) ?_
                refine v_icmp_ge (tgt := 198) C dX5_heirs_186 (by decide) (by omega) (by omega) (fun c186 => ?_) (fun c186 => ?_)
                · skip
                  refine v_aload_n C 6 dX5_heirs_198 rfl ?_
                  refine v_getf C (by omega) (by omega) ct_mod rfl 14 (by decide) wf41 hinX5 rfl dX5_heirs_199 ?_
                  refine v_iconst C dX5_heirs_202 ?_
                  refine v_iaload C (by omega) (by omega) ct_mparts (by omega) (by omega) (by decide) dX5_heirs_203 ?_
                  refine v_st (st' := [.int (iI (hs (g 6) t 1 (g 6 0)))]) (by rw [mu_nj (show (1 : Int) ≠ 2 by omega), mu_at]) ?_
                  exact jn204 (hs (g 6) t 1 (g 6 0)) (by omega)
                · skip
                  refine v_aload_n C 6 dX5_heirs_189 rfl ?_
                  refine v_getf C (by omega) (by omega) ct_mod rfl 14 (by decide) wf41 hinX5 rfl dX5_heirs_190 ?_
                  refine v_iconst C dX5_heirs_193 ?_
                  refine v_iaload C (by omega) (by omega) ct_mparts (by omega) (by omega) (by decide) dX5_heirs_194 ?_
                  refine v_st (st' := [.int (iI (hs (g 6) t 0 (g 6 0)))]) (by rw [mu_nj (show (0 : Int) ≠ 2 by omega), mu_nj (show (0 : Int) ≠ 1 by omega), mu_at]) ?_
                  refine v_goto (tgt := 204) C dX5_heirs_195 (by decide) ?_
                  exact jn204 (hs (g 6) t 0 (g 6 0)) (by omega)
            · intro jn172
              try dsimp only at jn172
              refine v_iload C 0 dX5_heirs_150 rfl ?_
              refine v_aload_n C 6 dX5_heirs_152 rfl ?_
              refine v_getf C (by omega) (by omega) ct_mod rfl 14 (by decide) wf41 hinX5 rfl dX5_heirs_153 ?_
              refine v_iconst C dX5_heirs_156 ?_
              refine v_iaload C (by omega) (by omega) ct_mparts (by omega) (by omega) (by decide) dX5_heirs_157 ?_
              refine v_st (st' := [.int (iI (hs (g 6) t 2 (g 6 0))), .int (iI (v148))]) (by rw [mu_at]) ?_
              refine v_icmp_le (tgt := 166) C dX5_heirs_158 (by decide) (by omega) (by omega) (fun c158 => ?_) (fun c158 => ?_)
              · skip
                refine v_aload_n C 6 dX5_heirs_166 rfl ?_
                refine v_getf C (by omega) (by omega) ct_mod rfl 14 (by decide) wf41 hinX5 rfl dX5_heirs_167 ?_
                refine v_iconst C dX5_heirs_170 ?_
                refine v_iaload C (by omega) (by omega) ct_mparts (by omega) (by omega) (by decide) dX5_heirs_171 ?_
                refine v_st (st' := [.int (iI (hs (g 6) t 2 (g 6 0)))]) (by rw [mu_at]) ?_
                exact jn172 (hs (g 6) t 2 (g 6 0)) (by omega)
              · skip
                refine v_iload C 0 dX5_heirs_161 rfl ?_
                refine v_goto (tgt := 172) C dX5_heirs_163 (by decide) ?_
                exact jn172 v148 (by omega)
          · intro jn148
            try dsimp only at jn148
            have hxx : x = g 6 0 := by omega
            refine v_g (g' := (mu (mu (mu g (11) (0) (hs (g 6) t 0 (g 6 0))) (11) (1) (hs (g 6) t 1 (g 6 0))) (11) (2) (hs (g 6) t 2 (g 6 0)))) (by first | rfl | rw [hxx]) ?_
            refine v_aload_n C 6 dX5_heirs_118 rfl ?_
            refine v_getf C (by omega) (by omega) ct_mod rfl 14 (by decide) wf41 hinX5 rfl dX5_heirs_119 ?_
            refine v_iconst C dX5_heirs_122 ?_
            refine v_iaload C (by omega) (by omega) ct_mparts (by omega) (by omega) (by decide) dX5_heirs_123 ?_
            refine v_st (st' := [.int (iI (hs (g 6) t 0 (g 6 0)))]) (by rw [mu_nj (show (0 : Int) ≠ 2 by omega), mu_nj (show (0 : Int) ≠ 1 by omega), mu_at]) ?_
            refine v_aload_n C 6 dX5_heirs_124 rfl ?_
            refine v_getf C (by omega) (by omega) ct_mod rfl 14 (by decide) wf41 hinX5 rfl dX5_heirs_125 ?_
            refine v_iconst C dX5_heirs_128 ?_
            refine v_iaload C (by omega) (by omega) ct_mparts (by omega) (by omega) (by decide) dX5_heirs_129 ?_
            refine v_st (st' := [.int (iI (hs (g 6) t 1 (g 6 0))), .int (iI (hs (g 6) t 0 (g 6 0)))]) (by rw [mu_nj (show (1 : Int) ≠ 2 by omega), mu_at]) ?_
            refine v_icmp_le (tgt := 142) C dX5_heirs_130 (by decide) (by omega) (by omega) (fun c130 => ?_) (fun c130 => ?_)
            · skip
              refine v_aload_n C 6 dX5_heirs_142 rfl ?_
              refine v_getf C (by omega) (by omega) ct_mod rfl 14 (by decide) wf41 hinX5 rfl dX5_heirs_143 ?_
              refine v_iconst C dX5_heirs_146 ?_
              refine v_iaload C (by omega) (by omega) ct_mparts (by omega) (by omega) (by decide) dX5_heirs_147 ?_
              refine v_st (st' := [.int (iI (hs (g 6) t 1 (g 6 0)))]) (by rw [mu_nj (show (1 : Int) ≠ 2 by omega), mu_at]) ?_
              exact jn148 (hs (g 6) t 1 (g 6 0)) (by omega)
            · skip
              refine v_aload_n C 6 dX5_heirs_133 rfl ?_
              refine v_getf C (by omega) (by omega) ct_mod rfl 14 (by decide) wf41 hinX5 rfl dX5_heirs_134 ?_
              refine v_iconst C dX5_heirs_137 ?_
              refine v_iaload C (by omega) (by omega) ct_mparts (by omega) (by omega) (by decide) dX5_heirs_138 ?_
              refine v_st (st' := [.int (iI (hs (g 6) t 0 (g 6 0)))]) (by rw [mu_nj (show (0 : Int) ≠ 2 by omega), mu_nj (show (0 : Int) ≠ 1 by omega), mu_at]) ?_
              refine v_goto (tgt := 148) C dX5_heirs_139 (by decide) ?_
              exact jn148 (hs (g 6) t 0 (g 6 0)) (by omega)
        · skip
          have hb9 := HI.b (i := g 6 0 - 1 - x) (by omega) (by omega)
          have hq0 : 0 ≤ t / p3 x := Int.ediv_nonneg (by omega) (Int.le_of_lt (p3_pos x))
          have hq1 : t / p3 x ≤ t := Int.ediv_le_self _ (by omega)
          refine v_aload_n C 6 dX5_heirs_87 rfl ?_
          refine v_getf C (by omega) (by omega) ct_mod rfl 14 (by decide) wf41 hinX5 rfl dX5_heirs_88 ?_
          refine v_iload C 1 dX5_heirs_91 rfl ?_
          refine v_iconst C dX5_heirs_93 ?_
          refine v_irem C dX5_heirs_94 (by omega) (by omega) (by omega) (by omega) ?_
          refine v_dup2 C dX5_heirs_95 rfl rfl ?_
          refine v_iaload C (by omega) (by omega) ct_mparts (by omega) (by omega) (by decide) dX5_heirs_96 ?_
          refine v_aload_n C 6 dX5_heirs_97 rfl ?_
          refine v_iload C 0 dX5_heirs_98 rfl ?_
          refine v_iconst C dX5_heirs_100 ?_
          refine v_cV_i C (As := [.int (iI (g 6 0 - 1 - x)), .int (iI (0))]) (rest := [.int (iI ((mu (mu (mu g (11) (0) (hs (g 6) t 0 x)) (11) (1) (hs (g 6) t 1 x)) (11) (2) (hs (g 6) t 2 x)) (11) ((t / p3 x) % 3))), .int (iI ((t / p3 x) % 3)), .ref (a (11))]) (c_X5_valueTo l D yc t1 t2 a A (mu (mu (mu g (11) (0) (hs (g 6) t 0 x)) (11) (1) (hs (g 6) t 1 x)) (11) (2) (hs (g 6) t 2 x)) (g 6 0 - 1 - x) 0 (by omega) (by rw [mu_ne (by decide), mu_ne (by decide), mu_ne (by decide)]; omega) (by omega)) (cwV 2 C.hts gX5_heirs_X5_valueTo rfl rfl rfl (by decide +kernel) ⟨by decide, by decide⟩) (fun H hP => va_recv C.hK hP (ci := 5) (q0 := (0 : Int).toNat) rfl (wo_is (by omega) (by omega) ct_mod)) rfl rfl (Nat.le_of_ble_eq_true rfl) dX5_heirs_101 ?_
          intro r9 g9 h9
          rw [h9.1, h9.2]
          clear h9 g9 r9
          try dsimp only
          refine v_st (st' := [.int (iI (vT (g 6) (g 6 0 - 1 - x) 0)), .int (iI ((mu (mu (mu g (11) (0) (hs (g 6) t 0 x)) (11) (1) (hs (g 6) t 1 x)) (11) (2) (hs (g 6) t 2 x)) (11) ((t / p3 x) % 3))), .int (iI ((t / p3 x) % 3)), .ref (a (11))]) (by rw [mu_ne (by decide), mu_ne (by decide), mu_ne (by decide)]) ?_
          refine v_iadd C dX5_heirs_104 ?_
          refine v_iastore C (ctm_L a yc) (by omega) (by omega) ct_mparts (ct_mparts).symm (by omega) (by omega) (by decide) dX5_heirs_105 ?_
          refine v_iload C 1 dX5_heirs_106 rfl ?_
          refine v_iconst C dX5_heirs_108 ?_
          refine v_idiv C dX5_heirs_109 (by omega) (by omega) (by omega) (by omega) ?_
          refine v_istore (lv' := [(5, .int (iI ((t / p3 x) / 3))), (6, .int (iI (g 6 0 - 1 - x))), (4, .int (iI (t))), (3, .int (iI (w))), (2, .int (iI (ab (hgB (g 6)) (t - 1).toNat))), (1, .int (iI (p3 (g 6 0)))), (0, .ref (a (0)))]) C dX5_heirs_110 (by decide) rfl ?_
          refine v_iinc (z' := g 6 0 - 1 - x - 1) (lv' := [(6, .int (iI (g 6 0 - 1 - x - 1))), (5, .int (iI ((t / p3 x) / 3))), (4, .int (iI (t))), (3, .int (iI (w))), (2, .int (iI (ab (hgB (g 6)) (t - 1).toNat))), (1, .int (iI (p3 (g 6 0)))), (0, .ref (a (0)))]) C 1 dX5_heirs_112 rfl (by omega) (by decide) rfl ?_
          refine v_goto (tgt := 82) C dX5_heirs_115 (by decide) ?_
          refine v_lv (congrArg (fun x9 => ([(6, .int (iI x9)), (5, .int (iI ((t / p3 x) / 3))), (4, .int (iI (t))), (3, .int (iI (w))), (2, .int (iI (ab (hgB (g 6)) (t - 1).toNat))), (1, .int (iI (p3 (g 6 0)))), (0, .ref (a (0)))] : List (Nat × Value))) (show (g 6 0 - 1 - x - 1) = (g 6 0 - 1 - (x + 1)) by first | rfl | (omega))) ?_
          refine v_lv (congrArg (fun x9 => ([(6, .int (iI (g 6 0 - 1 - (x + 1)))), (5, .int (iI x9)), (4, .int (iI (t))), (3, .int (iI (w))), (2, .int (iI (ab (hgB (g 6)) (t - 1).toNat))), (1, .int (iI (p3 (g 6 0)))), (0, .ref (a (0)))] : List (Nat × Value))) (show ((t / p3 x) / 3) = (t / p3 (x + 1)) by first | rfl | (exact div_p3 (by omega)))) ?_
          exact v_g ((m3_add g _ _ _ _ _ (by omega)).trans (by rw [hs_s _ _ 0 (by omega), hs_s _ _ 1 (by omega), hs_s _ _ 2 (by omega)]; rfl)) (ih82 (x + 1) (by omega) (by omega))
    · skip
      refine v_iload_n C 1 dX5_heirs_24 rfl ?_
      refine v_iconst C dX5_heirs_25 ?_
      refine v_imul C dX5_heirs_26 ?_
      refine v_istore_n (lv' := [(1, .int (iI ((p3 x) * 3))), (2, .int (iI (x))), (0, .ref (a (0)))]) C dX5_heirs_27 (by decide) rfl ?_
      refine v_iinc (z' := x + 1) (lv' := [(2, .int (iI (x + 1))), (1, .int (iI ((p3 x) * 3))), (0, .ref (a (0)))]) C 1 dX5_heirs_28 rfl (by omega) (by decide) rfl ?_
      refine v_goto (tgt := 14) C dX5_heirs_31 (by decide) ?_
      refine v_lv (congrArg (fun x9 => ([(2, .int (iI (x + 1))), (1, .int (iI x9)), (0, .ref (a (0)))] : List (Nat × Value))) (show ((p3 x) * 3) = (p3 (x + 1)) by first | rfl | (exact (p3_s (by omega)).symm))) ?_
      exact ih14 (x + 1) (by omega) (by omega)
  · skip
    refine v_bipush C dX5_heirs_7 (by decide) ?_
    exact v_ret_i C rfl dX5_heirs_9 ⟨(by repeat (first | rfl | rw [if_pos (by omega)] | rw [if_neg (by omega)])), (by repeat (first | rfl | rw [if_pos (by omega)] | rw [if_neg (by omega)]))⟩
