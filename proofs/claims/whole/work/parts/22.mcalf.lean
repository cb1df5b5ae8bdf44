set_option maxRecDepth 100000 in
set_option maxHeartbeats 4000000 in
theorem c_X5_calfOf (l : Launch) (D : va_G) (yc : Nat → ClassId) (t1 t2 : Nat) (a : Int → Nat) (A : Nat → Prop) (g : Mm) (d q : Int) (HI : FI (g 6)) (ht : 0 < g 6 1 ∧ 0 < g 6 2) (hd : 0 ≤ d ∧ d ≤ 999) (hq : 0 ≤ q ∧ q ≤ 3) : Ci l yX5_calfOf wsX5_calfOf { frames := 2, cells := 0, slots := 0, locals := 46 } D yc t1 t2 A (mw a yc) [.ref (a (0)), .int (iI (d)), .int (iI (q))] g (fun r9 g' => r9 = (iI (cf (g 6) d q)) ∧ g' = g) := by
  refine start_i (cc := cX5_calfOf) (nL := 4) (ret := (some .int)) (own := RX5) (by decide +kernel) rfl rfl (Nat.le_of_ble_eq_true rfl) ?_
  intro p e s m9 below meth c9 C
  have hn := HI.n
  have M0 := MM_bd HI ht.2 0 (d := d) (by omega) (by omega)
  have M1 := MM_bd HI ht.2 1 (d := d) (by omega) (by omega)
  refine v_lv (lv' := [(0, .ref (a (0))), (1, .int (iI (d))), (2, .int (iI (q)))]) rfl ?_
  refine v_iload_n C 2 dX5_calfOf_0 rfl ?_
  rcases (show q = 0 ∨ q = 1 ∨ q = 2 ∨ (q < 0 ∨ 2 < q) by omega) with c1 | c1 | c1 | c1
  · refine v_tin (off := 27) (tgt := 28) C 0 dX5_calfOf_1 c1 (by decide) (by decide) (by decide) rfl (by decide) ?_
    refine v_aload_n C 0 dX5_calfOf_28 rfl ?_
    refine v_iload_n C 1 dX5_calfOf_29 rfl ?_
    refine v_cV_i C (As := [.int (iI (d))]) (rest := []) (c_X5_farmOn l D yc t1 t2 a A g d HI (by omega) (by omega)) (cwV 1 C.hts gX5_calfOf_X5_farmOn rfl rfl rfl (by decide +kernel) ⟨by decide, by decide⟩) (fun H hP => va_recv C.hK hP (ci := 5) (q0 := (0 : Int).toNat) rfl (wo_is (by omega) (by omega) ct_mod)) rfl rfl (Nat.le_of_ble_eq_true rfl) dX5_calfOf_30 ?_
    intro r9 g9 h9
    rw [h9.1, h9.2]
    clear h9 g9 r9
    try dsimp only
    exact v_ret_i C rfl dX5_calfOf_33 ⟨(by unfold cf; rw [if_pos (by omega)]), rfl⟩
  · refine v_tin (off := 33) (tgt := 34) C 1 dX5_calfOf_1 c1 (by decide) (by decide) (by decide) rfl (by decide) ?_
    refine v_aload_n C 0 dX5_calfOf_34 rfl ?_
    refine v_cut1 46 (fun (v46 : Int) => v46 = if d = 0 then 0 else d - 1) (fun (v46 : Int) => [(0, .ref (a (0))), (1, .int (iI (d))), (2, .int (iI (q)))]) (fun (v46 : Int) => [.int (iI (v46)), .ref (a (0))]) (fun (v46 : Int) => g) ?_ ?_
    · intro v46 hj46
      try dsimp only
      have hv46 : 0 ≤ v46 ∧ v46 ≤ 999 := by rw [hj46]; split <;> omega
      refine v_cV_i C (As := [.int (iI (v46))]) (rest := []) (c_X5_farmOn l D yc t1 t2 a A g v46 HI (by omega) (by omega)) (cwV 1 C.hts gX5_calfOf_X5_farmOn rfl rfl rfl (by decide +kernel) ⟨by decide, by decide⟩) (fun H hP => va_recv C.hK hP (ci := 5) (q0 := (0 : Int).toNat) rfl (wo_is (by omega) (by omega) ct_mod)) rfl rfl (Nat.le_of_ble_eq_true rfl) dX5_calfOf_46 ?_
      intro r9 g9 h9
      rw [h9.1, h9.2]
      clear h9 g9 r9
      try dsimp only
      exact v_ret_i C rfl dX5_calfOf_49 ⟨(by unfold cf; rw [if_neg (by omega), if_pos (by omega), hj46]), rfl⟩
    · intro jn46
      try dsimp only at jn46
      refine v_iload_n C 1 dX5_calfOf_35 rfl ?_
      refine v_if_ne (tgt := 43) C dX5_calfOf_36 (by decide) (by omega) (fun c36 => ?_) (fun c36 => ?_)
      · skip
        refine v_iload_n C 1 dX5_calfOf_43 rfl ?_
        refine v_iconst C dX5_calfOf_44 ?_
        refine v_isub C dX5_calfOf_45 ?_
        exact jn46 (d - 1) (by first | rw [if_pos (by omega)] | rw [if_neg (by omega)])
      · skip
        refine v_iconst C dX5_calfOf_39 ?_
        refine v_goto (tgt := 46) C dX5_calfOf_40 (by decide) ?_
        exact jn46 0 (by first | rw [if_pos (by omega)] | rw [if_neg (by omega)])
  · refine v_tin (off := 49) (tgt := 50) C 2 dX5_calfOf_1 c1 (by decide) (by decide) (by decide) rfl (by decide) ?_
    refine v_aload_n C 0 dX5_calfOf_50 rfl ?_
    refine v_iconst C dX5_calfOf_51 ?_
    refine v_iconst C dX5_calfOf_52 ?_
    refine v_iload_n C 1 dX5_calfOf_53 rfl ?_
    refine v_cV_i C (As := [.int (iI (1)), .int (iI (0)), .int (iI (d))]) (rest := []) (c_X5_milkOf l D yc t1 t2 a A g 1 0 d HI (by omega) (by omega) (by omega) (by omega)) (cwV 3 C.hts gX5_calfOf_X5_milkOf rfl rfl rfl (by decide +kernel) ⟨by decide, by decide⟩) (fun H hP => va_recv C.hK hP (ci := 5) (q0 := (0 : Int).toNat) rfl (wo_is (by omega) (by omega) ct_mod)) rfl rfl (Nat.le_of_ble_eq_true rfl) dX5_calfOf_54 ?_
    intro r9 g9 h9
    rw [h9.1, h9.2]
    clear h9 g9 r9
    try dsimp only
    refine v_st (st' := [.int (iI (MM (g 6) 1 d))]) rfl ?_
    refine v_aload_n C 0 dX5_calfOf_57 rfl ?_
    refine v_iconst C dX5_calfOf_58 ?_
    refine v_iconst C dX5_calfOf_59 ?_
    refine v_iload_n C 1 dX5_calfOf_60 rfl ?_
    refine v_cV_i C (As := [.int (iI (0)), .int (iI (0)), .int (iI (d))]) (rest := [.int (iI (MM (g 6) 1 d))]) (c_X5_milkOf l D yc t1 t2 a A g 0 0 d HI (by omega) (by omega) (by omega) (by omega)) (cwV 3 C.hts gX5_calfOf_X5_milkOf rfl rfl rfl (by decide +kernel) ⟨by decide, by decide⟩) (fun H hP => va_recv C.hK hP (ci := 5) (q0 := (0 : Int).toNat) rfl (wo_is (by omega) (by omega) ct_mod)) rfl rfl (Nat.le_of_ble_eq_true rfl) dX5_calfOf_61 ?_
    intro r9 g9 h9
    rw [h9.1, h9.2]
    clear h9 g9 r9
    try dsimp only
    refine v_st (st' := [.int (iI (MM (g 6) 0 d)), .int (iI (MM (g 6) 1 d))]) rfl ?_
    refine v_icmp_le (tgt := 71) C dX5_calfOf_64 (by decide) (by omega) (by omega) (fun c64 => ?_) (fun c64 => ?_)
    · skip
      refine v_iconst C dX5_calfOf_71 ?_
      exact v_ret_i C rfl dX5_calfOf_72 ⟨(by unfold cf; rw [if_neg (by omega), if_neg (by omega), if_pos (by omega)]; first | rw [if_pos (by omega)] | rw [if_neg (by omega)]), rfl⟩
    · skip
      refine v_iconst C dX5_calfOf_67 ?_
      refine v_goto (tgt := 72) C dX5_calfOf_68 (by decide) ?_
      exact v_ret_i C rfl dX5_calfOf_72 ⟨(by unfold cf; rw [if_neg (by omega), if_neg (by omega), if_pos (by omega)]; first | rw [if_pos (by omega)] | rw [if_neg (by omega)]), rfl⟩
  · refine v_tout (tgt := 73) C dX5_calfOf_1 (by omega) c1 (by decide) ?_
    refine v_iload_n C 1 dX5_calfOf_73 rfl ?_
    refine v_iconst C dX5_calfOf_74 ?_
    refine v_iadd C dX5_calfOf_75 ?_
    refine v_istore_n (lv' := [(3, .int (iI (d + 1))), (0, .ref (a (0))), (1, .int (iI (d))), (2, .int (iI (q)))]) C dX5_calfOf_76 (by decide) rfl ?_
    refine v_lv (congrArg (fun x9 => ([(3, .int (iI x9)), (0, .ref (a (0))), (1, .int (iI (d))), (2, .int (iI (q)))] : List (Nat × Value))) (show (d + 1) = (d + 1 + ((0 : Int))) by first | rfl | omega | (simp; done))) ?_
    refine v_loop1 (fun (t : Int) => (9 - t).toNat) (fun (t : Int) => 0 ≤ t ∧ t ≤ 9 ∧ ff (wkP (g 6)) (d + 10 - (d + 1 + t)).toNat (d + 1 + t) = ff (wkP (g 6)) 9 (d + 1)) (fun (t : Int) => [(3, .int (iI (d + 1 + t))), (0, .ref (a (0))), (1, .int (iI (d))), (2, .int (iI (q)))]) (fun (t : Int) => g) ?_ 0 ⟨by omega, by omega, by rw [show (d + 10 - (d + 1 + 0)).toNat = 9 by omega, Int.add_zero]⟩
    intro t hI77 ih77
    try dsimp only at ih77 ⊢
    refine v_iload_n C 0 dX5_calfOf_77 rfl ?_
    refine v_iload_n C 2 dX5_calfOf_78 rfl ?_
    refine v_bipush C dX5_calfOf_79 (by decide) ?_
    refine v_iadd C dX5_calfOf_81 ?_
    refine v_icmp_ge (tgt := 112) C dX5_calfOf_82 (by decide) (by omega) (by omega) (fun c82 => ?_) (fun c82 => ?_)
    · skip
      refine v_bipush C dX5_calfOf_112 (by decide) ?_
      exact v_ret_i C rfl dX5_calfOf_114 ⟨(by unfold cf cw3; rw [if_neg (by omega), if_neg (by omega), if_neg (by omega), ← hI77.2.2, ff_e (by omega), if_pos rfl]), rfl⟩
    · skip
      refine v_aload_n C 1 dX5_calfOf_85 rfl ?_
      refine v_iload_n C 0 dX5_calfOf_86 rfl ?_
      refine v_cV_i C (As := [.int (iI (d + 1 + t))]) (rest := []) (c_X5_farmOn l D yc t1 t2 a A g (d + 1 + t) HI (by omega) (by omega)) (cwV 1 C.hts gX5_calfOf_X5_farmOn rfl rfl rfl (by decide +kernel) ⟨by decide, by decide⟩) (fun H hP => va_recv C.hK hP (ci := 5) (q0 := (0 : Int).toNat) rfl (wo_is (by omega) (by omega) ct_mod)) rfl rfl (Nat.le_of_ble_eq_true rfl) dX5_calfOf_87 ?_
      intro r9 g9 h9
      rw [h9.1, h9.2]
      clear h9 g9 r9
      try dsimp only
      refine v_aload_n C 1 dX5_calfOf_90 rfl ?_
      refine v_iload_n C 0 dX5_calfOf_91 rfl ?_
      refine v_iconst C dX5_calfOf_92 ?_
      refine v_isub C dX5_calfOf_93 ?_
      refine v_st (st' := [.int (iI (d + t)), .ref (a (0)), .int (iI (fOn (g 6) (d + 1 + t)))]) (by rw [show d + 1 + t - 1 = d + t by omega]) ?_
      refine v_cV_i C (As := [.int (iI (d + t))]) (rest := [.int (iI (fOn (g 6) (d + 1 + t)))]) (c_X5_farmOn l D yc t1 t2 a A g (d + t) HI (by omega) (by omega)) (cwV 1 C.hts gX5_calfOf_X5_farmOn rfl rfl rfl (by decide +kernel) ⟨by decide, by decide⟩) (fun H hP => va_recv C.hK hP (ci := 5) (q0 := (0 : Int).toNat) rfl (wo_is (by omega) (by omega) ct_mod)) rfl rfl (Nat.le_of_ble_eq_true rfl) dX5_calfOf_94 ?_
      intro r9 g9 h9
      rw [h9.1, h9.2]
      clear h9 g9 r9
      try dsimp only
      have h01 := fOn01 HI ht.1 (d + 1 + t)
      have h02 := fOn01 HI ht.1 (d + t)
      refine v_icmp_eq (tgt := 106) C dX5_calfOf_97 (by decide) (by omega) (by omega) (fun c97 => ?_) (fun c97 => ?_)
      · skip
        refine v_iinc (z' := d + 1 + t + 1) (lv' := [(3, .int (iI (d + 1 + t + 1))), (0, .ref (a (0))), (1, .int (iI (d))), (2, .int (iI (q)))]) C 0 dX5_calfOf_106 rfl (by omega) (by decide) rfl ?_
        refine v_goto (tgt := 77) C dX5_calfOf_109 (by decide) ?_
        refine v_lv (congrArg (fun x9 => ([(3, .int (iI x9)), (0, .ref (a (0))), (1, .int (iI (d))), (2, .int (iI (q)))] : List (Nat × Value))) (show (d + 1 + t + 1) = (d + 1 + (t + 1)) by first | rfl | (omega))) ?_
        exact ih77 (t + 1) ⟨by omega, by omega, by rw [← hI77.2.2, ← Int.add_assoc]; exact (ff_n (by omega) (fun h => absurd (of_decide_eq_true h) (by rw [show d + 1 + t - 1 = d + t by omega]; omega))).symm⟩ (by omega)
      · skip
        refine v_aload_n C 1 dX5_calfOf_100 rfl ?_
        refine v_iload_n C 0 dX5_calfOf_101 rfl ?_
        refine v_cV_i C (As := [.int (iI (d + 1 + t))]) (rest := []) (c_X5_farmOn l D yc t1 t2 a A g (d + 1 + t) HI (by omega) (by omega)) (cwV 1 C.hts gX5_calfOf_X5_farmOn rfl rfl rfl (by decide +kernel) ⟨by decide, by decide⟩) (fun H hP => va_recv C.hK hP (ci := 5) (q0 := (0 : Int).toNat) rfl (wo_is (by omega) (by omega) ct_mod)) rfl rfl (Nat.le_of_ble_eq_true rfl) dX5_calfOf_102 ?_
        intro r9 g9 h9
        rw [h9.1, h9.2]
        clear h9 g9 r9
        try dsimp only
        exact v_ret_i C rfl dX5_calfOf_105 ⟨(by unfold cf cw3; rw [if_neg (by omega), if_neg (by omega), if_neg (by omega), ← hI77.2.2, ff_y (by omega) (decide_eq_true (by rw [show d + 1 + t - 1 = d + t by omega]; omega)), if_neg (by omega)]), rfl⟩

set_option maxRecDepth 100000 in
set_option maxHeartbeats 4000000 in
theorem c_X5_calf (l : Launch) (D : va_G) (yc : Nat → ClassId) (t1 t2 : Nat) (a : Int → Nat) (A : Nat → Prop) (g : Mm) (d q : Int) (hd : R32 d) (hq : R32 q) (HI : FI (g 6)) : Ci l yX5_calf wsX5_calf { frames := 3, cells := 0, slots := 0, locals := 69 } D yc t1 t2 A (mw a yc) [.ref (a (0)), .int (iI (d)), .int (iI (q))] g (fun r9 g' => r9 = (iI (if (d < 0 ∨ 999 < d) ∨ (q < 0 ∨ 3 < q) then -1 else if g 6 0 = 0 then -4 else cf (g 6) d q)) ∧ g' = g) := by
  refine start_i (cc := cX5_calf) (nL := 3) (ret := (some .int)) (own := RX5) (by decide +kernel) rfl rfl (Nat.le_of_ble_eq_true rfl) ?_
  intro p e s m9 below meth c9 C
  have hn := HI.n
  refine v_lv (lv' := [(0, .ref (a (0))), (1, .int (iI (d))), (2, .int (iI (q)))]) rfl ?_
  refine v_iload_n C 1 dX5_calf_0 rfl ?_
  refine v_cS_i C (As := [.int (iI (d))]) (rest := []) (c_X5_isDay l D yc t1 t2 A (mw a yc) g d (by omega)) (va_cwS 1 C.hts gX5_calf_X5_isDay rfl rfl rfl (by decide +kernel) ⟨by decide, by decide⟩) rfl rfl (Nat.le_of_ble_eq_true rfl) dX5_calf_1 ?_
  intro r9 g9 h9
  rw [h9.1, h9.2]
  clear h9 g9 r9
  try dsimp only
  refine v_ifb_eq (tgt := 16) C dX5_calf_4 (by decide) (fun c4 => ?_) (fun c4 => ?_)
  · skip
    refine v_iconst C dX5_calf_16 ?_
    exact v_ret_i C rfl dX5_calf_17 ⟨(by repeat (first | rfl | rw [if_pos (by omega)] | rw [if_neg (by omega)])), rfl⟩
  · skip
    refine v_iload_n C 2 dX5_calf_7 rfl ?_
    refine v_iconst C dX5_calf_8 ?_
    refine v_iconst C dX5_calf_9 ?_
    refine v_cS_i C (As := [.int (iI (q)), .int (iI (0)), .int (iI (3))]) (rest := []) (c_X5_in l D yc t1 t2 A (mw a yc) g q 0 3 (by omega) (by omega) (by omega)) (va_cwS 3 C.hts gX5_calf_X5_in rfl rfl rfl (by decide +kernel) ⟨by decide, by decide⟩) rfl rfl (Nat.le_of_ble_eq_true rfl) dX5_calf_10 ?_
    intro r9 g9 h9
    rw [h9.1, h9.2]
    clear h9 g9 r9
    try dsimp only
    refine v_ifb_ne (tgt := 18) C dX5_calf_13 (by decide) (fun c13 => ?_) (fun c13 => ?_)
    · skip
      refine v_aload_n C 0 dX5_calf_18 rfl ?_
      refine v_cV_i C (As := []) (rest := []) (c_X5_are l D yc t1 t2 a A g HI) (cwV 0 C.hts gX5_calf_X5_are rfl rfl rfl (by decide +kernel) ⟨by decide, by decide⟩) (fun H hP => va_recv C.hK hP (ci := 5) (q0 := (0 : Int).toNat) rfl (wo_is (by omega) (by omega) ct_mod)) rfl rfl (Nat.le_of_ble_eq_true rfl) dX5_calf_19 ?_
      intro r9 g9 h9
      rw [h9.1, h9.2]
      clear h9 g9 r9
      try dsimp only
      refine v_ifb_eq (tgt := 34) C dX5_calf_22 (by decide) (fun c22 => ?_) (fun c22 => ?_)
      · skip
        refine v_bipush C dX5_calf_34 (by decide) ?_
        exact v_ret_i C rfl dX5_calf_36 ⟨(by repeat (first | rfl | rw [if_pos (by omega)] | rw [if_neg (by omega)])), rfl⟩
      · skip
        refine v_aload_n C 0 dX5_calf_25 rfl ?_
        refine v_iload_n C 1 dX5_calf_26 rfl ?_
        refine v_iload_n C 2 dX5_calf_27 rfl ?_
        refine v_cV_i C (As := [.int (iI (d)), .int (iI (q))]) (rest := []) (c_X5_calfOf l D yc t1 t2 a A g d q HI (by omega) (by omega) (by omega)) (cwV 2 C.hts gX5_calf_X5_calfOf rfl rfl rfl (by decide +kernel) ⟨by decide, by decide⟩) (fun H hP => va_recv C.hK hP (ci := 5) (q0 := (0 : Int).toNat) rfl (wo_is (by omega) (by omega) ct_mod)) rfl rfl (Nat.le_of_ble_eq_true rfl) dX5_calf_28 ?_
        intro r9 g9 h9
        rw [h9.1, h9.2]
        clear h9 g9 r9
        try dsimp only
        refine v_goto (tgt := 36) C dX5_calf_31 (by decide) ?_
        exact v_ret_i C rfl dX5_calf_36 ⟨(by repeat (first | rfl | rw [if_pos (by omega)] | rw [if_neg (by omega)])), rfl⟩
    · skip
      refine v_iconst C dX5_calf_16 ?_
      exact v_ret_i C rfl dX5_calf_17 ⟨(by repeat (first | rfl | rw [if_pos (by omega)] | rw [if_neg (by omega)])), rfl⟩

set_option maxRecDepth 100000 in
set_option maxHeartbeats 4000000 in
theorem c_X5_quarrel (l : Launch) (D : va_G) (yc : Nat → ClassId) (t1 t2 : Nat) (a : Int → Nat) (A : Nat → Prop) (g : Mm) (d x y : Int) (hd : R32 d) (hx : R32 x) (hy : R32 y) (HI : FI (g 6)) : Ci l yX5_quarrel wsX5_quarrel { frames := 3, cells := 0, slots := 0, locals := 69 } D yc t1 t2 A (mw a yc) [.ref (a (0)), .int (iI (d)), .int (iI (x)), .int (iI (y))] g (fun r9 g' => r9 = (iI (if (d < 0 ∨ 999 < d) ∨ (x < 0 ∨ 3 < x) ∨ (y < 0 ∨ 3 < y) ∨ x = y then -1 else if g 6 0 = 0 then -4 else if (ff (qrP (g 6) x y) (1000 - d).toNat d) = -1 then -9 else (ff (qrP (g 6) x y) (1000 - d).toNat d))) ∧ g' = g) := by
  refine start_i (cc := cX5_quarrel) (nL := 5) (ret := (some .int)) (own := RX5) (by decide +kernel) rfl rfl (Nat.le_of_ble_eq_true rfl) ?_
  intro p e s m9 below meth c9 C
  have hn := HI.n
  refine v_lv (lv' := [(0, .ref (a (0))), (1, .int (iI (d))), (2, .int (iI (x))), (3, .int (iI (y)))]) rfl ?_
  refine v_iload_n C 1 dX5_quarrel_0 rfl ?_
  refine v_cS_i C (As := [.int (iI (d))]) (rest := []) (c_X5_isDay l D yc t1 t2 A (mw a yc) g d (by omega)) (va_cwS 1 C.hts gX5_quarrel_X5_isDay rfl rfl rfl (by decide +kernel) ⟨by decide, by decide⟩) rfl rfl (Nat.le_of_ble_eq_true rfl) dX5_quarrel_1 ?_
  intro r9 g9 h9
  rw [h9.1, h9.2]
  clear h9 g9 r9
  try dsimp only
  refine v_ifb_eq (tgt := 30) C dX5_quarrel_4 (by decide) (fun c4 => ?_) (fun c4 => ?_)
  · skip
    refine v_iconst C dX5_quarrel_30 ?_
    exact v_ret_i C rfl dX5_quarrel_31 ⟨(by repeat (first | rfl | rw [if_pos (by omega)] | rw [if_neg (by omega)])), rfl⟩
  · skip
    refine v_iload_n C 2 dX5_quarrel_7 rfl ?_
    refine v_iconst C dX5_quarrel_8 ?_
    refine v_iconst C dX5_quarrel_9 ?_
    refine v_cS_i C (As := [.int (iI (x)), .int (iI (0)), .int (iI (3))]) (rest := []) (c_X5_in l D yc t1 t2 A (mw a yc) g x 0 3 (by omega) (by omega) (by omega)) (va_cwS 3 C.hts gX5_quarrel_X5_in rfl rfl rfl (by decide +kernel) ⟨by decide, by decide⟩) rfl rfl (Nat.le_of_ble_eq_true rfl) dX5_quarrel_10 ?_
    intro r9 g9 h9
    rw [h9.1, h9.2]
    clear h9 g9 r9
    try dsimp only
    refine v_ifb_eq (tgt := 30) C dX5_quarrel_13 (by decide) (fun c13 => ?_) (fun c13 => ?_)
    · skip
      refine v_iconst C dX5_quarrel_30 ?_
      exact v_ret_i C rfl dX5_quarrel_31 ⟨(by repeat (first | rfl | rw [if_pos (by omega)] | rw [if_neg (by omega)])), rfl⟩
    · skip
      refine v_iload_n C 3 dX5_quarrel_16 rfl ?_
      refine v_iconst C dX5_quarrel_17 ?_
      refine v_iconst C dX5_quarrel_18 ?_
      refine v_cS_i C (As := [.int (iI (y)), .int (iI (0)), .int (iI (3))]) (rest := []) (c_X5_in l D yc t1 t2 A (mw a yc) g y 0 3 (by omega) (by omega) (by omega)) (va_cwS 3 C.hts gX5_quarrel_X5_in rfl rfl rfl (by decide +kernel) ⟨by decide, by decide⟩) rfl rfl (Nat.le_of_ble_eq_true rfl) dX5_quarrel_19 ?_
      intro r9 g9 h9
      rw [h9.1, h9.2]
      clear h9 g9 r9
      try dsimp only
      refine v_ifb_eq (tgt := 30) C dX5_quarrel_22 (by decide) (fun c22 => ?_) (fun c22 => ?_)
      · skip
        refine v_iconst C dX5_quarrel_30 ?_
        exact v_ret_i C rfl dX5_quarrel_31 ⟨(by repeat (first | rfl | rw [if_pos (by omega)] | rw [if_neg (by omega)])), rfl⟩
      · skip
        refine v_iload_n C 2 dX5_quarrel_25 rfl ?_
        refine v_iload_n C 3 dX5_quarrel_26 rfl ?_
        refine v_icmp_ne (tgt := 32) C dX5_quarrel_27 (by decide) (by omega) (by omega) (fun c27 => ?_) (fun c27 => ?_)
        · skip
          refine v_aload_n C 0 dX5_quarrel_32 rfl ?_
          refine v_cV_i C (As := []) (rest := []) (c_X5_are l D yc t1 t2 a A g HI) (cwV 0 C.hts gX5_quarrel_X5_are rfl rfl rfl (by decide +kernel) ⟨by decide, by decide⟩) (fun H hP => va_recv C.hK hP (ci := 5) (q0 := (0 : Int).toNat) rfl (wo_is (by omega) (by omega) ct_mod)) rfl rfl (Nat.le_of_ble_eq_true rfl) dX5_quarrel_33 ?_
          intro r9 g9 h9
          rw [h9.1, h9.2]
          clear h9 g9 r9
          try dsimp only
          refine v_ifb_ne (tgt := 42) C dX5_quarrel_36 (by decide) (fun c36 => ?_) (fun c36 => ?_)
          · skip
            refine v_iload_n C 1 dX5_quarrel_42 rfl ?_
            refine v_istore (lv' := [(4, .int (iI (d))), (0, .ref (a (0))), (1, .int (iI (d))), (2, .int (iI (x))), (3, .int (iI (y)))]) C dX5_quarrel_43 (by decide) rfl ?_
            refine v_loop1 (fun (t : Int) => (1000 - t).toNat) (fun (t : Int) => d ≤ t ∧ t ≤ 1000 ∧ ff (qrP (g 6) x y) (1000 - t).toNat t = (ff (qrP (g 6) x y) (1000 - d).toNat d)) (fun (t : Int) => [(4, .int (iI (t))), (0, .ref (a (0))), (1, .int (iI (d))), (2, .int (iI (x))), (3, .int (iI (y)))]) (fun (t : Int) => g) ?_ d ⟨by omega, by omega, rfl⟩
            intro t hI45 ih45
            try dsimp only at ih45 ⊢
            refine v_iload C 0 dX5_quarrel_45 rfl ?_
            refine v_sipush C dX5_quarrel_47 (by decide) ?_
            refine v_icmp_ge (tgt := 79) C dX5_quarrel_50 (by decide) (by omega) (by omega) (fun c50 => ?_) (fun c50 => ?_)
            · skip
              refine v_bipush C dX5_quarrel_79 (by decide) ?_
              exact v_ret_i C rfl dX5_quarrel_81 ⟨(by rw [if_neg (by omega), if_neg (by omega), ← hI45.2.2, ff_e (by omega), if_pos rfl]), rfl⟩
            · skip
              refine v_aload_n C 1 dX5_quarrel_53 rfl ?_
              refine v_iload C 0 dX5_quarrel_54 rfl ?_
              refine v_iload_n C 3 dX5_quarrel_56 rfl ?_
              refine v_cV_i C (As := [.int (iI (t)), .int (iI (x))]) (rest := []) (c_X5_calfOf l D yc t1 t2 a A g t x HI (by omega) (by omega) (by omega)) (cwV 2 C.hts gX5_quarrel_X5_calfOf rfl rfl rfl (by decide +kernel) ⟨by decide, by decide⟩) (fun H hP => va_recv C.hK hP (ci := 5) (q0 := (0 : Int).toNat) rfl (wo_is (by omega) (by omega) ct_mod)) rfl rfl (Nat.le_of_ble_eq_true rfl) dX5_quarrel_57 ?_
              intro r9 g9 h9
              rw [h9.1, h9.2]
              clear h9 g9 r9
              try dsimp only
              refine v_aload_n C 1 dX5_quarrel_60 rfl ?_
              refine v_iload C 0 dX5_quarrel_61 rfl ?_
              refine v_iload_n C 4 dX5_quarrel_63 rfl ?_
              refine v_cV_i C (As := [.int (iI (t)), .int (iI (y))]) (rest := [.int (iI (cf (g 6) t x))]) (c_X5_calfOf l D yc t1 t2 a A g t y HI (by omega) (by omega) (by omega)) (cwV 2 C.hts gX5_quarrel_X5_calfOf rfl rfl rfl (by decide +kernel) ⟨by decide, by decide⟩) (fun H hP => va_recv C.hK hP (ci := 5) (q0 := (0 : Int).toNat) rfl (wo_is (by omega) (by omega) ct_mod)) rfl rfl (Nat.le_of_ble_eq_true rfl) dX5_quarrel_64 ?_
              intro r9 g9 h9
              rw [h9.1, h9.2]
              clear h9 g9 r9
              try dsimp only
              have r1 := cf_r HI (by omega) t x
              have r2 := cf_r HI (by omega) t y
              refine v_icmp_eq (tgt := 73) C dX5_quarrel_67 (by decide) (by omega) (by omega) (fun c67 => ?_) (fun c67 => ?_)
              · skip
                refine v_iinc (z' := t + 1) (lv' := [(4, .int (iI (t + 1))), (0, .ref (a (0))), (1, .int (iI (d))), (2, .int (iI (x))), (3, .int (iI (y)))]) C 0 dX5_quarrel_73 rfl (by omega) (by decide) rfl ?_
                refine v_goto (tgt := 45) C dX5_quarrel_76 (by decide) ?_
                exact ih45 (t + 1) ⟨by omega, by omega, by rw [← hI45.2.2]; exact (ff_n (by omega) (fun h => absurd (of_decide_eq_true h) (by omega))).symm⟩ (by omega)
              · skip
                refine v_iload C 0 dX5_quarrel_70 rfl ?_
                exact v_ret_i C rfl dX5_quarrel_72 ⟨(by rw [if_neg (by omega), if_neg (by omega), ← hI45.2.2, ff_y (by omega) (decide_eq_true (by omega)), if_neg (by omega)]), rfl⟩
          · skip
            refine v_bipush C dX5_quarrel_39 (by decide) ?_
            exact v_ret_i C rfl dX5_quarrel_41 ⟨(by repeat (first | rfl | rw [if_pos (by omega)] | rw [if_neg (by omega)])), rfl⟩
        · skip
          refine v_iconst C dX5_quarrel_30 ?_
          exact v_ret_i C rfl dX5_quarrel_31 ⟨(by repeat (first | rfl | rw [if_pos (by omega)] | rw [if_neg (by omega)])), rfl⟩

set_option maxRecDepth 100000 in
set_option maxHeartbeats 4000000 in
theorem c_X5_bill (l : Launch) (D : va_G) (yc : Nat → ClassId) (t1 t2 : Nat) (a : Int → Nat) (A : Nat → Prop) (g : Mm) (x d : Int) (hx : R32 x) (hd : R32 d) (HI : FI (g 6)) : Ci l yX5_bill wsX5_bill { frames := 2, cells := 0, slots := 0, locals := 46 } D yc t1 t2 A (mw a yc) [.ref (a (0)), .int (iI (x)), .int (iI (d))] g (fun r9 g' => r9 = (iI (if (x < 1 ∨ 9999 < x) ∨ (d < 0 ∨ 999 < d) then -1 else if g 6 0 = 0 then -4 else 1)) ∧ g' = (if (x < 1 ∨ 9999 < x) ∨ (d < 0 ∨ 999 < d) then g else if g 6 0 = 0 then g else if (MM (g 6) 0 d + MM (g 6) 1 d) = 0 then mu (mu g 0 12 (x / (Int.gcd x 2 : Int))) 0 13 (2 / (Int.gcd x 2 : Int)) else mu (mu g 0 12 ((x * MM (g 6) 0 d) / (Int.gcd (x * MM (g 6) 0 d) (MM (g 6) 0 d + MM (g 6) 1 d) : Int))) 0 13 ((MM (g 6) 0 d + MM (g 6) 1 d) / (Int.gcd (x * MM (g 6) 0 d) (MM (g 6) 0 d + MM (g 6) 1 d) : Int)))) := by
  refine start_i (cc := cX5_bill) (nL := 7) (ret := (some .int)) (own := RX5) (by decide +kernel) rfl rfl (Nat.le_of_ble_eq_true rfl) ?_
  intro p e s m9 below meth c9 C
  have wk194 : Cond.constantLong RX5 194 2 ∈ wsX5_bill := by decide +kernel
  have hn := HI.n
  refine v_lv (lv' := [(0, .ref (a (0))), (1, .int (iI (x))), (2, .int (iI (d)))]) rfl ?_
  refine v_iload_n C 1 dX5_bill_0 rfl ?_
  refine v_iconst C dX5_bill_1 ?_
  refine v_sipush C dX5_bill_2 (by decide) ?_
  refine v_cS_i C (As := [.int (iI (x)), .int (iI (1)), .int (iI (9999))]) (rest := []) (c_X5_in l D yc t1 t2 A (mw a yc) g x 1 9999 (by omega) (by omega) (by omega)) (va_cwS 3 C.hts gX5_bill_X5_in rfl rfl rfl (by decide +kernel) ⟨by decide, by decide⟩) rfl rfl (Nat.le_of_ble_eq_true rfl) dX5_bill_5 ?_
  intro r9 g9 h9
  rw [h9.1, h9.2]
  clear h9 g9 r9
  try dsimp only
  refine v_ifb_eq (tgt := 18) C dX5_bill_8 (by decide) (fun c8 => ?_) (fun c8 => ?_)
  · skip
    refine v_iconst C dX5_bill_18 ?_
    exact v_ret_i C rfl dX5_bill_19 ⟨(by first | (exfalso; omega) | repeat (first | rfl | rw [if_pos (by omega)] | rw [if_neg (by omega)])), (by first | (exfalso; omega) | repeat (first | rfl | rw [if_pos (by omega)] | rw [if_neg (by omega)]))⟩
  · skip
    refine v_iload_n C 2 dX5_bill_11 rfl ?_
    refine v_cS_i C (As := [.int (iI (d))]) (rest := []) (c_X5_isDay l D yc t1 t2 A (mw a yc) g d (by omega)) (va_cwS 1 C.hts gX5_bill_X5_isDay rfl rfl rfl (by decide +kernel) ⟨by decide, by decide⟩) rfl rfl (Nat.le_of_ble_eq_true rfl) dX5_bill_12 ?_
    intro r9 g9 h9
    rw [h9.1, h9.2]
    clear h9 g9 r9
    try dsimp only
    refine v_ifb_ne (tgt := 20) C dX5_bill_15 (by decide) (fun c15 => ?_) (fun c15 => ?_)
    · skip
      refine v_aload_n C 0 dX5_bill_20 rfl ?_
      refine v_cV_i C (As := []) (rest := []) (c_X5_are l D yc t1 t2 a A g HI) (cwV 0 C.hts gX5_bill_X5_are rfl rfl rfl (by decide +kernel) ⟨by decide, by decide⟩) (fun H hP => va_recv C.hK hP (ci := 5) (q0 := (0 : Int).toNat) rfl (wo_is (by omega) (by omega) ct_mod)) rfl rfl (Nat.le_of_ble_eq_true rfl) dX5_bill_21 ?_
      intro r9 g9 h9
      rw [h9.1, h9.2]
      clear h9 g9 r9
      try dsimp only
      refine v_ifb_ne (tgt := 30) C dX5_bill_24 (by decide) (fun c24 => ?_) (fun c24 => ?_)
      · skip
        have M0 := MM_bd HI (by omega) 0 (d := d) (by omega) (by omega)
        have M1 := MM_bd HI (by omega) 1 (d := d) (by omega) (by omega)
        have hmul : 0 ≤ x * MM (g 6) 0 d ∧ x * MM (g 6) 0 d ≤ 9999 * 9099 := ⟨Int.mul_nonneg (by omega) (by omega), Int.mul_le_mul (by omega) (by omega) (by omega) (by omega)⟩
        refine v_aload_n C 0 dX5_bill_30 rfl ?_
        refine v_iconst C dX5_bill_31 ?_
        refine v_iconst C dX5_bill_32 ?_
        refine v_iload_n C 2 dX5_bill_33 rfl ?_
        refine v_cV_i C (As := [.int (iI (0)), .int (iI (0)), .int (iI (d))]) (rest := []) (c_X5_milkOf l D yc t1 t2 a A g 0 0 d HI (by omega) (by omega) (by omega) (by omega)) (cwV 3 C.hts gX5_bill_X5_milkOf rfl rfl rfl (by decide +kernel) ⟨by decide, by decide⟩) (fun H hP => va_recv C.hK hP (ci := 5) (q0 := (0 : Int).toNat) rfl (wo_is (by omega) (by omega) ct_mod)) rfl rfl (Nat.le_of_ble_eq_true rfl) dX5_bill_34 ?_
        intro r9 g9 h9
        rw [h9.1, h9.2]
        clear h9 g9 r9
        try dsimp only
        refine v_st (st' := [.int (iI (MM (g 6) 0 d))]) rfl ?_
        refine v_i2l C dX5_bill_37 (by omega) ?_
        refine v_lstore_n (lv' := [(3, .long (lI (MM (g 6) 0 d))), (0, .ref (a (0))), (1, .int (iI (x))), (2, .int (iI (d)))]) C dX5_bill_38 (by decide) rfl ?_
        refine v_lload_n C 0 dX5_bill_39 rfl ?_
        refine v_aload_n C 1 dX5_bill_40 rfl ?_
        refine v_iconst C dX5_bill_41 ?_
        refine v_iconst C dX5_bill_42 ?_
        refine v_iload_n C 3 dX5_bill_43 rfl ?_
        refine v_cV_i C (As := [.int (iI (1)), .int (iI (0)), .int (iI (d))]) (rest := [.long (lI (MM (g 6) 0 d))]) (c_X5_milkOf l D yc t1 t2 a A g 1 0 d HI (by omega) (by omega) (by omega) (by omega)) (cwV 3 C.hts gX5_bill_X5_milkOf rfl rfl rfl (by decide +kernel) ⟨by decide, by decide⟩) (fun H hP => va_recv C.hK hP (ci := 5) (q0 := (0 : Int).toNat) rfl (wo_is (by omega) (by omega) ct_mod)) rfl rfl (Nat.le_of_ble_eq_true rfl) dX5_bill_44 ?_
        intro r9 g9 h9
        rw [h9.1, h9.2]
        clear h9 g9 r9
        try dsimp only
        refine v_st (st' := [.int (iI (MM (g 6) 1 d)), .long (lI (MM (g 6) 0 d))]) rfl ?_
        refine v_i2l C dX5_bill_47 (by omega) ?_
        refine v_ladd C dX5_bill_48 ?_
        refine v_lstore (lv' := [(5, .long (lI ((MM (g 6) 0 d) + (MM (g 6) 1 d)))), (3, .long (lI (MM (g 6) 0 d))), (0, .ref (a (0))), (1, .int (iI (x))), (2, .int (iI (d)))]) C dX5_bill_49 (by decide) rfl ?_
        refine v_lload C 0 dX5_bill_51 rfl ?_
        refine v_lconst (z := 0) C dX5_bill_53 (by decide) ?_
        refine v_lcmp C (by omega) (by omega) dX5_bill_54 (fun h_1 => ?_) (fun h_2 => ?_) (fun h_3 => ?_)
        · skip
          refine v_if_ne (tgt := 70) C dX5_bill_55 (by decide) (by decide) (fun _ => ?_) (fun h9 => absurd h9 (by decide))
          refine v_aload_n C 2 dX5_bill_70 rfl ?_
          refine v_iload_n C 3 dX5_bill_71 rfl ?_
          refine v_i2l C dX5_bill_72 (by omega) ?_
          refine v_lload_n C 1 dX5_bill_73 rfl ?_
          refine v_lmul C dX5_bill_74 ?_
          refine v_lload C 0 dX5_bill_75 rfl ?_
          refine v_cV_i C (As := [.long (lI (x * (MM (g 6) 0 d))), .long (lI ((MM (g 6) 0 d) + (MM (g 6) 1 d)))]) (rest := []) (c_X5_tellsParts l D yc t1 t2 a A g (x * (MM (g 6) 0 d)) ((MM (g 6) 0 d) + (MM (g 6) 1 d)) (by omega) (by omega)) (cwV 2 C.hts gX5_bill_X5_tellsParts rfl rfl rfl (by decide +kernel) ⟨by decide, by decide⟩) (fun H hP => va_recv C.hK hP (ci := 5) (q0 := (0 : Int).toNat) rfl (wo_is (by omega) (by omega) ct_mod)) rfl rfl (Nat.le_of_ble_eq_true rfl) dX5_bill_77 ?_
          intro r9 g9 h9
          rw [h9.1, h9.2]
          clear h9 g9 r9
          try dsimp only
          exact v_ret_i C rfl dX5_bill_80 ⟨(by first | (exfalso; omega) | repeat (first | rfl | rw [if_pos (by omega)] | rw [if_neg (by omega)])), (by first | (exfalso; omega) | repeat (first | rfl | rw [if_pos (by omega)] | rw [if_neg (by omega)]))⟩
        · skip
          refine v_if_ne (tgt := 70) C dX5_bill_55 (by decide) (by decide) (fun h9 => absurd h9 (by decide)) (fun _ => ?_)
          refine v_aload_n C 2 dX5_bill_58 rfl ?_
          refine v_iload_n C 3 dX5_bill_59 rfl ?_
          refine v_i2l C dX5_bill_60 (by omega) ?_
          refine v_ldc2 (z := 2) C wk194 dX5_bill_61 (by decide) ?_
          refine v_cV_i C (As := [.long (lI (x)), .long (lI (2))]) (rest := []) (c_X5_tellsParts l D yc t1 t2 a A g x 2 (by omega) (by omega)) (cwV 2 C.hts gX5_bill_X5_tellsParts rfl rfl rfl (by decide +kernel) ⟨by decide, by decide⟩) (fun H hP => va_recv C.hK hP (ci := 5) (q0 := (0 : Int).toNat) rfl (wo_is (by omega) (by omega) ct_mod)) rfl rfl (Nat.le_of_ble_eq_true rfl) dX5_bill_64 ?_
          intro r9 g9 h9
          rw [h9.1, h9.2]
          clear h9 g9 r9
          try dsimp only
          refine v_goto (tgt := 80) C dX5_bill_67 (by decide) ?_
          exact v_ret_i C rfl dX5_bill_80 ⟨(by first | (exfalso; omega) | repeat (first | rfl | rw [if_pos (by omega)] | rw [if_neg (by omega)])), (by first | (exfalso; omega) | repeat (first | rfl | rw [if_pos (by omega)] | rw [if_neg (by omega)]))⟩
        · skip
          refine v_if_ne (tgt := 70) C dX5_bill_55 (by decide) (by decide) (fun _ => ?_) (fun h9 => absurd h9 (by decide))
          refine v_aload_n C 2 dX5_bill_70 rfl ?_
          refine v_iload_n C 3 dX5_bill_71 rfl ?_
          refine v_i2l C dX5_bill_72 (by omega) ?_
          refine v_lload_n C 1 dX5_bill_73 rfl ?_
          refine v_lmul C dX5_bill_74 ?_
          refine v_lload C 0 dX5_bill_75 rfl ?_
          refine v_cV_i C (As := [.long (lI (x * (MM (g 6) 0 d))), .long (lI ((MM (g 6) 0 d) + (MM (g 6) 1 d)))]) (rest := []) (c_X5_tellsParts l D yc t1 t2 a A g (x * (MM (g 6) 0 d)) ((MM (g 6) 0 d) + (MM (g 6) 1 d)) (by omega) (by omega)) (cwV 2 C.hts gX5_bill_X5_tellsParts rfl rfl rfl (by decide +kernel) ⟨by decide, by decide⟩) (fun H hP => va_recv C.hK hP (ci := 5) (q0 := (0 : Int).toNat) rfl (wo_is (by omega) (by omega) ct_mod)) rfl rfl (Nat.le_of_ble_eq_true rfl) dX5_bill_77 ?_
          intro r9 g9 h9
          rw [h9.1, h9.2]
          clear h9 g9 r9
          try dsimp only
          exact v_ret_i C rfl dX5_bill_80 ⟨(by first | (exfalso; omega) | repeat (first | rfl | rw [if_pos (by omega)] | rw [if_neg (by omega)])), (by first | (exfalso; omega) | repeat (first | rfl | rw [if_pos (by omega)] | rw [if_neg (by omega)]))⟩
      · skip
        refine v_bipush C dX5_bill_27 (by decide) ?_
        exact v_ret_i C rfl dX5_bill_29 ⟨(by first | (exfalso; omega) | repeat (first | rfl | rw [if_pos (by omega)] | rw [if_neg (by omega)])), (by first | (exfalso; omega) | repeat (first | rfl | rw [if_pos (by omega)] | rw [if_neg (by omega)]))⟩
    · skip
      refine v_iconst C dX5_bill_18 ?_
      exact v_ret_i C rfl dX5_bill_19 ⟨(by first | (exfalso; omega) | repeat (first | rfl | rw [if_pos (by omega)] | rw [if_neg (by omega)])), (by first | (exfalso; omega) | repeat (first | rfl | rw [if_pos (by omega)] | rw [if_neg (by omega)]))⟩

set_option maxRecDepth 100000 in
set_option maxHeartbeats 4000000 in
theorem c_X5_wrongIn (l : Launch) (D : va_G) (yc : Nat → ClassId) (t1 t2 : Nat) (a : Int → Nat) (A : Nat → Prop) (g : Mm) (r : Int) (hr : 0 ≤ r ∧ r < 6) (HM : MI g) : Ci l yX5_wrongIn wsX5_wrongIn { frames := 2, cells := 0, slots := 0, locals := 42 } D yc t1 t2 A (mw a yc) [.ref (a (0)), .int (iI (r))] g (fun r9 g' => r9 = (iI (wrg g r)) ∧ g' = g) := by
  refine start_i (cc := cX5_wrongIn) (nL := 4) (ret := (some .int)) (own := RX5) (by decide +kernel) rfl rfl (Nat.le_of_ble_eq_true rfl) ?_
  intro p e s m9 below meth c9 C
  have wf7 : Cond.fieldLink RX5 7 (TX5 0).1 (TX5 0).2.1 (TX5 0).2.2.1 ∈ wsX5_wrongIn := by decide +kernel
  have hinX5 : ∀ w ∈ u_ws RX5 TX5 17, w ∈ wsX5_wrongIn := by decide +kernel
  have wf13 : Cond.fieldLink RX5 13 (TX5 1).1 (TX5 1).2.1 (TX5 1).2.2.1 ∈ wsX5_wrongIn := by decide +kernel
  have hs := HM.sz (r := r) (by omega) (by omega)
  refine v_lv (lv' := [(0, .ref (a (0))), (1, .int (iI (r)))]) rfl ?_
  refine v_aload_n C 0 dX5_wrongIn_0 rfl ?_
  refine v_getf C (by omega) (by omega) ct_mod rfl 0 (by decide) wf7 hinX5 rfl dX5_wrongIn_1 ?_
  refine v_iload_n C 1 dX5_wrongIn_4 rfl ?_
  refine v_iaload C (by omega) (by omega) ct_msizes (by omega) (by omega) (by decide) dX5_wrongIn_5 ?_
  refine v_if_ge (tgt := 11) C dX5_wrongIn_6 (by decide) (by omega) (fun c6 => ?_) (fun c6 => ?_)
  · skip
    refine v_aload_n C 0 dX5_wrongIn_11 rfl ?_
    refine v_getf C (by omega) (by omega) ct_mod rfl 0 (by decide) wf7 hinX5 rfl dX5_wrongIn_12 ?_
    refine v_iload_n C 1 dX5_wrongIn_15 rfl ?_
    refine v_iaload C (by omega) (by omega) ct_msizes (by omega) (by omega) (by decide) dX5_wrongIn_16 ?_
    refine v_iconst C dX5_wrongIn_17 ?_
    refine v_irem C dX5_wrongIn_18 (by omega) (by omega) (by omega) (by omega) ?_
    refine v_iconst C dX5_wrongIn_19 ?_
    refine v_icmp_ne (tgt := 25) C dX5_wrongIn_20 (by decide) (by omega) (by omega) (fun c20 => ?_) (fun c20 => ?_)
    · skip
      refine v_iconst C dX5_wrongIn_25 ?_
      refine v_istore_n (lv' := [(2, .int (iI (1))), (0, .ref (a (0))), (1, .int (iI (r)))]) C dX5_wrongIn_26 (by decide) rfl ?_
      refine v_iconst C dX5_wrongIn_27 ?_
      refine v_istore_n (lv' := [(3, .int (iI (0))), (2, .int (iI (1))), (0, .ref (a (0))), (1, .int (iI (r)))]) C dX5_wrongIn_28 (by decide) rfl ?_
      refine v_lv (congrArg (fun x9 => ([(3, .int (iI x9)), (2, .int (iI (1))), (0, .ref (a (0))), (1, .int (iI (r)))] : List (Nat × Value))) (show (0) = (2 * ((0 : Int))) by first | rfl | omega | (simp; done))) ?_
      refine v_lv (congrArg (fun x9 => ([(3, .int (iI (2 * ((0 : Int))))), (2, .int (iI x9)), (0, .ref (a (0))), (1, .int (iI (r)))] : List (Nat × Value))) (show (1) = (((1 : Int))) by first | rfl | omega | (simp; done))) ?_
      refine v_loop2 (fun (b : Int) (k : Int) => (g 1 r - 2 * k).toNat) (fun (b : Int) (k : Int) => 0 ≤ k ∧ 2 * k ≤ g 1 r + 1 ∧ (b = 0 ∨ b = 1) ∧ (b = 1 ↔ sI (bkW g r) k = 0)) (fun (b : Int) (k : Int) => [(3, .int (iI (2 * k))), (2, .int (iI (b))), (0, .ref (a (0))), (1, .int (iI (r)))]) (fun (b : Int) (k : Int) => g) ?_ 1 0 ⟨by omega, by omega, by omega, ⟨fun _ => rfl, fun _ => rfl⟩⟩
      intro b k hI29 ih29
      try dsimp only at ih29 ⊢
      refine v_iload_n C 0 dX5_wrongIn_29 rfl ?_
      refine v_aload_n C 2 dX5_wrongIn_30 rfl ?_
      refine v_getf C (by omega) (by omega) ct_mod rfl 0 (by decide) wf7 hinX5 rfl dX5_wrongIn_31 ?_
      refine v_iload_n C 3 dX5_wrongIn_34 rfl ?_
      refine v_iaload C (by omega) (by omega) ct_msizes (by omega) (by omega) (by decide) dX5_wrongIn_35 ?_
      refine v_icmp_ge (tgt := 93) C dX5_wrongIn_36 (by decide) (by omega) (by omega) (fun c36 => ?_) (fun c36 => ?_)
      · skip
        refine v_iload_n C 1 dX5_wrongIn_93 rfl ?_
        refine v_if_eq (tgt := 101) C dX5_wrongIn_94 (by decide) (by omega) (fun c94 => ?_) (fun c94 => ?_)
        · skip
          refine v_iconst C dX5_wrongIn_101 ?_
          exact v_ret_i C rfl dX5_wrongIn_102 ⟨(by unfold wrg; rw [if_neg (by omega), if_neg (by omega), show g 1 r / 2 = k by omega]; first | rw [if_pos (by omega)] | rw [if_neg (by omega)]), rfl⟩
        · skip
          refine v_iconst C dX5_wrongIn_97 ?_
          refine v_goto (tgt := 102) C dX5_wrongIn_98 (by decide) ?_
          exact v_ret_i C rfl dX5_wrongIn_102 ⟨(by unfold wrg; rw [if_neg (by omega), if_neg (by omega), show g 1 r / 2 = k by omega]; first | rw [if_pos (by omega)] | rw [if_neg (by omega)]), rfl⟩
      · skip
        have hit := HM.it
        have hd9 := hit (40 * r + 2 * k)
        have hd8 := hit (40 * r + 2 * k + 1)
        have hW := sI_s (bkW g r) (e := k) (by omega)
        have h01 := bkW_01 g r k
        have hnn := sI_nn (h := bkW g r) (n := k) (fun e _ _ => (bkW_01 g r e).1) (by omega)
        refine v_iload_n C 1 dX5_wrongIn_39 rfl ?_
        refine v_if_eq (tgt := 85) C dX5_wrongIn_40 (by decide) (by omega) (fun c40 => ?_) (fun c40 => ?_)
        · skip
          refine v_iconst C dX5_wrongIn_85 ?_
          refine v_istore_n (lv' := [(2, .int (iI (0))), (3, .int (iI (2 * k))), (0, .ref (a (0))), (1, .int (iI (r)))]) C dX5_wrongIn_86 (by decide) rfl ?_
          refine v_iinc (z' := 2 * k + 2) (lv' := [(3, .int (iI (2 * k + 2))), (2, .int (iI (0))), (0, .ref (a (0))), (1, .int (iI (r)))]) C 1 dX5_wrongIn_87 rfl (by omega) (by decide) rfl ?_
          refine v_goto (tgt := 29) C dX5_wrongIn_90 (by decide) ?_
          refine v_lv (congrArg (fun x9 => ([(3, .int (iI x9)), (2, .int (iI (0))), (0, .ref (a (0))), (1, .int (iI (r)))] : List (Nat × Value))) (show (2 * k + 2) = (2 * (k + 1)) by first | rfl | (omega))) ?_
          exact ih29 0 (k + 1) ⟨by omega, by omega, by omega, by rw [hW]; first | omega | (have h8 : bkW g r k = 0 := (by unfold bkW bkD bkF; rw [if_pos (by omega)]); omega) | (have h8 : bkW g r k = 1 := (by unfold bkW bkD bkF; rw [if_neg (by omega)]); omega)⟩ (by omega)
        · skip
          refine v_aload_n C 2 dX5_wrongIn_43 rfl ?_
          refine v_getf C (by omega) (by omega) ct_mod rfl 1 (by decide) wf13 hinX5 rfl dX5_wrongIn_44 ?_
          refine v_bipush C dX5_wrongIn_47 (by decide) ?_
          refine v_iload_n C 3 dX5_wrongIn_49 rfl ?_
          refine v_imul C dX5_wrongIn_50 ?_
          refine v_iload_n C 0 dX5_wrongIn_51 rfl ?_
          refine v_iadd C dX5_wrongIn_52 ?_
          refine v_iaload C (by omega) (by omega) ct_mitems (by omega) (by omega) (by decide) dX5_wrongIn_53 ?_
          refine v_cS_i C (As := [.int (iI (g (2) ((40 * r) + (2 * k))))]) (rest := []) (c_X5_isDay l D yc t1 t2 A (mw a yc) g (g (2) ((40 * r) + (2 * k))) (by omega)) (va_cwS 1 C.hts gX5_wrongIn_X5_isDay rfl rfl rfl (by decide +kernel) ⟨by decide, by decide⟩) rfl rfl (Nat.le_of_ble_eq_true rfl) dX5_wrongIn_54 ?_
          intro r9 g9 h9
          rw [h9.1, h9.2]
          clear h9 g9 r9
          try dsimp only
          refine v_ifb_eq (tgt := 85) C dX5_wrongIn_57 (by decide) (fun c57 => ?_) (fun c57 => ?_)
          · skip
            refine v_iconst C dX5_wrongIn_85 ?_
            refine v_istore_n (lv' := [(2, .int (iI (0))), (3, .int (iI (2 * k))), (0, .ref (a (0))), (1, .int (iI (r)))]) C dX5_wrongIn_86 (by decide) rfl ?_
            refine v_iinc (z' := 2 * k + 2) (lv' := [(3, .int (iI (2 * k + 2))), (2, .int (iI (0))), (0, .ref (a (0))), (1, .int (iI (r)))]) C 1 dX5_wrongIn_87 rfl (by omega) (by decide) rfl ?_
            refine v_goto (tgt := 29) C dX5_wrongIn_90 (by decide) ?_
            refine v_lv (congrArg (fun x9 => ([(3, .int (iI x9)), (2, .int (iI (0))), (0, .ref (a (0))), (1, .int (iI (r)))] : List (Nat × Value))) (show (2 * k + 2) = (2 * (k + 1)) by first | rfl | (omega))) ?_
            exact ih29 0 (k + 1) ⟨by omega, by omega, by omega, by rw [hW]; first | omega | (have h8 : bkW g r k = 0 := (by unfold bkW bkD bkF; rw [if_pos (by omega)]); omega) | (have h8 : bkW g r k = 1 := (by unfold bkW bkD bkF; rw [if_neg (by omega)]); omega)⟩ (by omega)
          · skip
            refine v_aload_n C 2 dX5_wrongIn_60 rfl ?_
            refine v_getf C (by omega) (by omega) ct_mod rfl 1 (by decide) wf13 hinX5 rfl dX5_wrongIn_61 ?_
            refine v_bipush C dX5_wrongIn_64 (by decide) ?_
            refine v_iload_n C 3 dX5_wrongIn_66 rfl ?_
            refine v_imul C dX5_wrongIn_67 ?_
            refine v_iload_n C 0 dX5_wrongIn_68 rfl ?_
            refine v_iadd C dX5_wrongIn_69 ?_
            refine v_iconst C dX5_wrongIn_70 ?_
            refine v_iadd C dX5_wrongIn_71 ?_
            refine v_iaload C (by omega) (by omega) ct_mitems (by omega) (by omega) (by decide) dX5_wrongIn_72 ?_
            refine v_iconst C dX5_wrongIn_73 ?_
            refine v_iconst C dX5_wrongIn_74 ?_
            refine v_cS_i C (As := [.int (iI (g (2) (((40 * r) + (2 * k)) + 1))), .int (iI (0)), .int (iI (1))]) (rest := []) (c_X5_in l D yc t1 t2 A (mw a yc) g (g (2) (((40 * r) + (2 * k)) + 1)) 0 1 (by omega) (by omega) (by omega)) (va_cwS 3 C.hts gX5_wrongIn_X5_in rfl rfl rfl (by decide +kernel) ⟨by decide, by decide⟩) rfl rfl (Nat.le_of_ble_eq_true rfl) dX5_wrongIn_75 ?_
            intro r9 g9 h9
            rw [h9.1, h9.2]
            clear h9 g9 r9
            try dsimp only
            refine v_ifb_eq (tgt := 85) C dX5_wrongIn_78 (by decide) (fun c78 => ?_) (fun c78 => ?_)
            · skip
              refine v_iconst C dX5_wrongIn_85 ?_
              refine v_istore_n (lv' := [(2, .int (iI (0))), (3, .int (iI (2 * k))), (0, .ref (a (0))), (1, .int (iI (r)))]) C dX5_wrongIn_86 (by decide) rfl ?_
              refine v_iinc (z' := 2 * k + 2) (lv' := [(3, .int (iI (2 * k + 2))), (2, .int (iI (0))), (0, .ref (a (0))), (1, .int (iI (r)))]) C 1 dX5_wrongIn_87 rfl (by omega) (by decide) rfl ?_
              refine v_goto (tgt := 29) C dX5_wrongIn_90 (by decide) ?_
              refine v_lv (congrArg (fun x9 => ([(3, .int (iI x9)), (2, .int (iI (0))), (0, .ref (a (0))), (1, .int (iI (r)))] : List (Nat × Value))) (show (2 * k + 2) = (2 * (k + 1)) by first | rfl | (omega))) ?_
              exact ih29 0 (k + 1) ⟨by omega, by omega, by omega, by rw [hW]; first | omega | (have h8 : bkW g r k = 0 := (by unfold bkW bkD bkF; rw [if_pos (by omega)]); omega) | (have h8 : bkW g r k = 1 := (by unfold bkW bkD bkF; rw [if_neg (by omega)]); omega)⟩ (by omega)
            · skip
              refine v_iconst C dX5_wrongIn_81 ?_
              refine v_goto (tgt := 86) C dX5_wrongIn_82 (by decide) ?_
              refine v_istore_n (lv' := [(2, .int (iI (1))), (3, .int (iI (2 * k))), (0, .ref (a (0))), (1, .int (iI (r)))]) C dX5_wrongIn_86 (by decide) rfl ?_
              refine v_iinc (z' := 2 * k + 2) (lv' := [(3, .int (iI (2 * k + 2))), (2, .int (iI (1))), (0, .ref (a (0))), (1, .int (iI (r)))]) C 1 dX5_wrongIn_87 rfl (by omega) (by decide) rfl ?_
              refine v_goto (tgt := 29) C dX5_wrongIn_90 (by decide) ?_
              refine v_lv (congrArg (fun x9 => ([(3, .int (iI x9)), (2, .int (iI (1))), (0, .ref (a (0))), (1, .int (iI (r)))] : List (Nat × Value))) (show (2 * k + 2) = (2 * (k + 1)) by first | rfl | (omega))) ?_
              exact ih29 1 (k + 1) ⟨by omega, by omega, by omega, by rw [hW]; first | omega | (have h8 : bkW g r k = 0 := (by unfold bkW bkD bkF; rw [if_pos (by omega)]); omega) | (have h8 : bkW g r k = 1 := (by unfold bkW bkD bkF; rw [if_neg (by omega)]); omega)⟩ (by omega)
    · skip
      refine v_iconst C dX5_wrongIn_23 ?_
      exact v_ret_i C rfl dX5_wrongIn_24 ⟨(by unfold wrg; rw [if_neg (by omega), if_pos (by omega)]), rfl⟩
  · skip
    refine v_iconst C dX5_wrongIn_9 ?_
    exact v_ret_i C rfl dX5_wrongIn_10 ⟨(by unfold wrg; rw [if_pos (by omega)]), rfl⟩

set_option maxRecDepth 100000 in
set_option maxHeartbeats 4000000 in
theorem c_X5_fitsBy (l : Launch) (D : va_G) (yc : Nat → ClassId) (t1 t2 : Nat) (a : Int → Nat) (A : Nat → Prop) (g : Mm) (se r n : Int) (hs : 0 ≤ se ∧ se < 256) (hr : 0 ≤ r ∧ r < 6) (hn : 1 ≤ n ∧ n ≤ 8) (HW : wrg g r = 0) (hz : 0 ≤ g 1 r ∧ g 1 r ≤ 40 ∧ g 1 r % 2 = 0) : Ci l yX5_fitsBy wsX5_fitsBy { frames := 0, cells := 0, slots := 0, locals := 0 } D yc t1 t2 A (mw a yc) [.ref (a (0)), .int (iI (se)), .int (iI (r)), .int (iI (n))] g (fun r9 g' => r9 = (bI (ftP g r n se)) ∧ g' = g) := by
  refine start_i (cc := cX5_fitsBy) (nL := 6) (ret := (some .boolean)) (own := RX5) (by decide +kernel) rfl rfl (Nat.le_of_ble_eq_true rfl) ?_
  intro p e s m9 below meth c9 C
  have wf7 : Cond.fieldLink RX5 7 (TX5 0).1 (TX5 0).2.1 (TX5 0).2.2.1 ∈ wsX5_fitsBy := by decide +kernel
  have hinX5 : ∀ w ∈ u_ws RX5 TX5 17, w ∈ wsX5_fitsBy := by decide +kernel
  have wf13 : Cond.fieldLink RX5 13 (TX5 1).1 (TX5 1).2.1 (TX5 1).2.2.1 ∈ wsX5_fitsBy := by decide +kernel
  refine v_lv (lv' := [(0, .ref (a (0))), (1, .int (iI (se))), (2, .int (iI (r))), (3, .int (iI (n)))]) rfl ?_
  refine v_iconst C dX5_fitsBy_0 ?_
  refine v_istore (lv' := [(4, .int (iI (1))), (0, .ref (a (0))), (1, .int (iI (se))), (2, .int (iI (r))), (3, .int (iI (n)))]) C dX5_fitsBy_1 (by decide) rfl ?_
  refine v_iconst C dX5_fitsBy_3 ?_
  refine v_istore (lv' := [(5, .int (iI (0))), (4, .int (iI (1))), (0, .ref (a (0))), (1, .int (iI (se))), (2, .int (iI (r))), (3, .int (iI (n)))]) C dX5_fitsBy_4 (by decide) rfl ?_
  refine v_lv (congrArg (fun x9 => ([(5, .int (iI x9)), (4, .int (iI (1))), (0, .ref (a (0))), (1, .int (iI (se))), (2, .int (iI (r))), (3, .int (iI (n)))] : List (Nat × Value))) (show (0) = (2 * ((0 : Int))) by first | rfl | omega | (simp; done))) ?_
  refine v_lv (congrArg (fun x9 => ([(5, .int (iI (2 * ((0 : Int))))), (4, .int (iI x9)), (0, .ref (a (0))), (1, .int (iI (se))), (2, .int (iI (r))), (3, .int (iI (n)))] : List (Nat × Value))) (show (1) = (((1 : Int))) by first | rfl | omega | (simp; done))) ?_
  refine v_loop2 (fun (b : Int) (k : Int) => (g 1 r - 2 * k).toNat) (fun (b : Int) (k : Int) => 0 ≤ k ∧ 2 * k ≤ g 1 r ∧ (b = 0 ∨ b = 1) ∧ (b = 1 ↔ sI (ftS g r n se) k = 0)) (fun (b : Int) (k : Int) => [(5, .int (iI (2 * k))), (4, .int (iI (b))), (0, .ref (a (0))), (1, .int (iI (se))), (2, .int (iI (r))), (3, .int (iI (n)))]) (fun (b : Int) (k : Int) => g) ?_ 1 0 ⟨by omega, by omega, by omega, ⟨fun _ => rfl, fun _ => rfl⟩⟩
  intro b k hI6 ih6
  try dsimp only at ih6 ⊢
  refine v_iload C 0 dX5_fitsBy_6 rfl ?_
  refine v_aload_n C 2 dX5_fitsBy_8 rfl ?_
  refine v_getf C (by omega) (by omega) ct_mod rfl 0 (by decide) wf7 hinX5 rfl dX5_fitsBy_9 ?_
  refine v_iload_n C 4 dX5_fitsBy_12 rfl ?_
  refine v_iaload C (by omega) (by omega) ct_msizes (by omega) (by omega) (by decide) dX5_fitsBy_13 ?_
  refine v_icmp_ge (tgt := 70) C dX5_fitsBy_14 (by decide) (by omega) (by omega) (fun c14 => ?_) (fun c14 => ?_)
  · skip
    refine v_iload C 1 dX5_fitsBy_70 rfl ?_
    exact v_ret_z C rfl (by rcases hI6.2.2.1 with h8 | h8 <;> rw [h8] <;> first | exact Or.inl rfl | exact Or.inr rfl) dX5_fitsBy_72 ⟨(by rcases hI6.2.2.1 with h8 | h8 <;> rw [h8] <;> first | exact bI_t (by unfold ftP; rw [show g 1 r / 2 = k by omega]; omega) | exact bI_f (by unfold ftP; rw [show g 1 r / 2 = k by omega]; omega)), rfl⟩
  · skip
    have hok := bk_ok HW (k := k) (by omega) (by omega)
    unfold bkD bkF at hok
    have hm := emd (d := g 2 (40 * r + 2 * k)) (n := n) (by omega)
    have hW := sI_s (ftS g r n se) (e := k) (by omega)
    have hnn := sI_nn (h := ftS g r n se) (n := k) (fun e _ _ => (ftS_01 g r n se e).1) (by omega)
    have hb01 := bt01 se (g 2 (40 * r + 2 * k) % n)
    have h01 := ftS_01 g r n se k
    refine v_iload C 1 dX5_fitsBy_17 rfl ?_
    refine v_if_eq (tgt := 61) C dX5_fitsBy_19 (by decide) (by omega) (fun c19 => ?_) (fun c19 => ?_)
    · skip
      refine v_iconst C dX5_fitsBy_61 ?_
      refine v_istore (lv' := [(4, .int (iI (0))), (5, .int (iI (2 * k))), (0, .ref (a (0))), (1, .int (iI (se))), (2, .int (iI (r))), (3, .int (iI (n)))]) C dX5_fitsBy_62 (by decide) rfl ?_
      refine v_iinc (z' := 2 * k + 2) (lv' := [(5, .int (iI (2 * k + 2))), (4, .int (iI (0))), (0, .ref (a (0))), (1, .int (iI (se))), (2, .int (iI (r))), (3, .int (iI (n)))]) C 1 dX5_fitsBy_64 rfl (by omega) (by decide) rfl ?_
      refine v_goto (tgt := 6) C dX5_fitsBy_67 (by decide) ?_
      refine v_lv (congrArg (fun x9 => ([(5, .int (iI x9)), (4, .int (iI (0))), (0, .ref (a (0))), (1, .int (iI (se))), (2, .int (iI (r))), (3, .int (iI (n)))] : List (Nat × Value))) (show (2 * k + 2) = (2 * (k + 1)) by first | rfl | (omega))) ?_
      exact ih6 0 (k + 1) ⟨by omega, by omega, by omega, by rw [hW]; first | omega | (have h8 : ftS g r n se k = 0 := (by unfold ftS bkD bkF; rw [if_pos (by omega)]); omega) | (have h8 : ftS g r n se k = 1 := (by unfold ftS bkD bkF; rw [if_neg (by omega)]); omega)⟩ (by omega)
    · skip
      refine v_iload_n C 3 dX5_fitsBy_22 rfl ?_
      refine v_aload_n C 2 dX5_fitsBy_23 rfl ?_
      refine v_getf C (by omega) (by omega) ct_mod rfl 1 (by decide) wf13 hinX5 rfl dX5_fitsBy_24 ?_
      refine v_bipush C dX5_fitsBy_27 (by decide) ?_
      refine v_iload_n C 4 dX5_fitsBy_29 rfl ?_
      refine v_imul C dX5_fitsBy_30 ?_
      refine v_iload C 0 dX5_fitsBy_31 rfl ?_
      refine v_iadd C dX5_fitsBy_33 ?_
      refine v_iaload C (by omega) (by omega) ct_mitems (by omega) (by omega) (by decide) dX5_fitsBy_34 ?_
      refine v_iload_n C 5 dX5_fitsBy_35 rfl ?_
      refine v_irem C dX5_fitsBy_36 (by omega) (by omega) (by omega) (by omega) ?_
      refine v_ishr (z := (iI (se / pw (g 2 (40 * r + 2 * k) % n)))) C dX5_fitsBy_37 (shr_bt (by omega) (by omega) (by omega) (by omega)) ?_
      refine v_iconst C dX5_fitsBy_38 ?_
      refine v_iand (z := (iI (bt se (g 2 (40 * r + 2 * k) % n)))) C dX5_fitsBy_39 (and_1 (Int.ediv_nonneg (by omega) (by have := pw_pos (g 2 (40 * r + 2 * k) % n); omega)) (Int.lt_of_le_of_lt (Int.ediv_le_self _ (by omega)) (by omega))) ?_
      refine v_aload_n C 2 dX5_fitsBy_40 rfl ?_
      refine v_getf C (by omega) (by omega) ct_mod rfl 1 (by decide) wf13 hinX5 rfl dX5_fitsBy_41 ?_
      refine v_bipush C dX5_fitsBy_44 (by decide) ?_
      refine v_iload_n C 4 dX5_fitsBy_46 rfl ?_
      refine v_imul C dX5_fitsBy_47 ?_
      refine v_iload C 0 dX5_fitsBy_48 rfl ?_
      refine v_iadd C dX5_fitsBy_50 ?_
      refine v_iconst C dX5_fitsBy_51 ?_
      refine v_iadd C dX5_fitsBy_52 ?_
      refine v_iaload C (by omega) (by omega) ct_mitems (by omega) (by omega) (by decide) dX5_fitsBy_53 ?_
      refine v_icmp_ne (tgt := 61) C dX5_fitsBy_54 (by decide) (by omega) (by omega) (fun c54 => ?_) (fun c54 => ?_)
      · skip
        refine v_iconst C dX5_fitsBy_61 ?_
        refine v_istore (lv' := [(4, .int (iI (0))), (5, .int (iI (2 * k))), (0, .ref (a (0))), (1, .int (iI (se))), (2, .int (iI (r))), (3, .int (iI (n)))]) C dX5_fitsBy_62 (by decide) rfl ?_
        refine v_iinc (z' := 2 * k + 2) (lv' := [(5, .int (iI (2 * k + 2))), (4, .int (iI (0))), (0, .ref (a (0))), (1, .int (iI (se))), (2, .int (iI (r))), (3, .int (iI (n)))]) C 1 dX5_fitsBy_64 rfl (by omega) (by decide) rfl ?_
        refine v_goto (tgt := 6) C dX5_fitsBy_67 (by decide) ?_
        refine v_lv (congrArg (fun x9 => ([(5, .int (iI x9)), (4, .int (iI (0))), (0, .ref (a (0))), (1, .int (iI (se))), (2, .int (iI (r))), (3, .int (iI (n)))] : List (Nat × Value))) (show (2 * k + 2) = (2 * (k + 1)) by first | rfl | (omega))) ?_
        exact ih6 0 (k + 1) ⟨by omega, by omega, by omega, by rw [hW]; first | omega | (have h8 : ftS g r n se k = 0 := (by unfold ftS bkD bkF; rw [if_pos (by omega)]); omega) | (have h8 : ftS g r n se k = 1 := (by unfold ftS bkD bkF; rw [if_neg (by omega)]); omega)⟩ (by omega)
      · skip
        refine v_iconst C dX5_fitsBy_57 ?_
        refine v_goto (tgt := 62) C dX5_fitsBy_58 (by decide) ?_
        refine v_istore (lv' := [(4, .int (iI (1))), (5, .int (iI (2 * k))), (0, .ref (a (0))), (1, .int (iI (se))), (2, .int (iI (r))), (3, .int (iI (n)))]) C dX5_fitsBy_62 (by decide) rfl ?_
        refine v_iinc (z' := 2 * k + 2) (lv' := [(5, .int (iI (2 * k + 2))), (4, .int (iI (1))), (0, .ref (a (0))), (1, .int (iI (se))), (2, .int (iI (r))), (3, .int (iI (n)))]) C 1 dX5_fitsBy_64 rfl (by omega) (by decide) rfl ?_
        refine v_goto (tgt := 6) C dX5_fitsBy_67 (by decide) ?_
        refine v_lv (congrArg (fun x9 => ([(5, .int (iI x9)), (4, .int (iI (1))), (0, .ref (a (0))), (1, .int (iI (se))), (2, .int (iI (r))), (3, .int (iI (n)))] : List (Nat × Value))) (show (2 * k + 2) = (2 * (k + 1)) by first | rfl | (omega))) ?_
        exact ih6 1 (k + 1) ⟨by omega, by omega, by omega, by rw [hW]; first | omega | (have h8 : ftS g r n se k = 0 := (by unfold ftS bkD bkF; rw [if_pos (by omega)]); omega) | (have h8 : ftS g r n se k = 1 := (by unfold ftS bkD bkF; rw [if_neg (by omega)]); omega)⟩ (by omega)
