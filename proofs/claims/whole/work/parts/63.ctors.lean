/-! Constructors. -/
theorem dfX0 : ∀ j, j < 5 → defaultValue (tyX0 j) = vp_V [.int 0, .int 0, .int 0, .int 0, .int 0] j := by
  intro j hj
  rcases (show j = 0 ∨ j = 1 ∨ j = 2 ∨ j = 3 ∨ j = 4 by omega) with rfl | rfl | rfl | rfl | rfl <;> rfl
theorem dfX1 : ∀ j, j < 11 → defaultValue (tyX1 j) = vp_V [.null, .null, .null, .null, .null, .int 0, .int 0, .int 0, .int 0, .int 0, .int 0] j := by
  intro j hj
  rcases (show j = 0 ∨ j = 1 ∨ j = 2 ∨ j = 3 ∨ j = 4 ∨ j = 5 ∨ j = 6 ∨ j = 7 ∨ j = 8 ∨ j = 9 ∨ j = 10 by omega) with rfl | rfl | rfl | rfl | rfl | rfl | rfl | rfl | rfl | rfl | rfl <;> rfl
theorem dfX2 : ∀ j, j < 2 → defaultValue (tyX2 j) = vp_V [.null, .int 0] j := by
  intro j hj
  rcases (show j = 0 ∨ j = 1 by omega) with rfl | rfl <;> rfl
theorem dfX3 : ∀ j, j < 2 → defaultValue (tyX3 j) = vp_V [.null, .int 0] j := by
  intro j hj
  rcases (show j = 0 ∨ j = 1 by omega) with rfl | rfl <;> rfl
theorem dfX4 : ∀ j, j < 10 → defaultValue (tyX4 j) = vp_V [.null, .null, .null, .null, .null, .null, .int 0, .int 0, .long 0, .long 0] j := by
  intro j hj
  rcases (show j = 0 ∨ j = 1 ∨ j = 2 ∨ j = 3 ∨ j = 4 ∨ j = 5 ∨ j = 6 ∨ j = 7 ∨ j = 8 ∨ j = 9 by omega) with rfl | rfl | rfl | rfl | rfl | rfl | rfl | rfl | rfl | rfl <;> rfl
theorem dfX5 : ∀ j, j < 17 → defaultValue (tyX5 j) = vp_V [.null, .null, .null, .null, .null, .null, .null, .null, .null, .null, .int 0, .int 0, .long 0, .long 0, .null, .int 0, .int 0] j := by
  intro j hj
  rcases (show j = 0 ∨ j = 1 ∨ j = 2 ∨ j = 3 ∨ j = 4 ∨ j = 5 ∨ j = 6 ∨ j = 7 ∨ j = 8 ∨ j = 9 ∨ j = 10 ∨ j = 11 ∨ j = 12 ∨ j = 13 ∨ j = 14 ∨ j = 15 ∨ j = 16 by omega) with rfl | rfl | rfl | rfl | rfl | rfl | rfl | rfl | rfl | rfl | rfl | rfl | rfl | rfl | rfl | rfl | rfl <;> rfl
set_option maxRecDepth 100000 in
set_option maxHeartbeats 40000000 in
theorem c_X0_init (l : Launch) (D : va_G) (yc : Nat → ClassId) (t1 t2 : Nat) (A : Nat → Prop) (q0 : Nat) : CL l yX0_init wsX0_init { frames := 1, cells := 0, slots := 0, locals := 12 } D yc t1 t2 A [.ref q0] [(q0, .inr (0, [.int 0, .int 0, .int 0, .int 0, .int 0]))] (fun w => w = [(q0, .inr (0, [.int 0, .int 0, .int 0, .int 0, .int 0]))]) 0 0 := by
  refine start_L (cc := cX0_init) (nL := 1) (own := RX0) (by decide +kernel) rfl rfl rfl (Nat.le_of_ble_eq_true rfl) ?_
  intro p e s m9 below meth c9 h C hA hO hN
  have wl3 : Cond.methodLink RX0 3 objectInit ∈ wsX0_init := by decide +kernel
  have wio : Cond.instanceMethod objectInit ∈ wsX0_init := by decide +kernel
  have wco : Cond.code objectInit ⟨#[0xb1]⟩ 1 none ∈ wsX0_init := by decide +kernel
  refine x_lv (lv' := [(0, .ref q0)]) rfl ?_
  refine x_aload_n C 0 dX0_init_0 rfl ?_
  refine l_oi C wl3 wio wco (by decide) (Nat.le_of_ble_eq_true rfl) dX0_init_1 ?_
  exact l_ret C rfl dX0_init_4 rfl

set_option maxRecDepth 100000 in
set_option maxHeartbeats 40000000 in
theorem c_X3_init_40 (l : Launch) (D : va_G) (yc : Nat → ClassId) (t1 t2 : Nat) (A : Nat → Prop) (q0 : Nat) : CL l yX3_init wsX3_init { frames := 1, cells := 1, slots := 40, locals := 24 } D yc t1 t2 A [.ref q0, .int (iI (40))] [(q0, .inr (3, [.null, .int 0]))] (fun w => ∃ q1 : Nat, w = [(q0, .inr (3, [.ref q1, .int (iI (-1))])), (q1, .inl (yc 0, 40, .inl (fun _ => 0)))]) 1 40 := by
  refine start_L (cc := cX3_init) (nL := 2) (own := RX3) (by decide +kernel) rfl rfl rfl (Nat.le_of_ble_eq_true rfl) ?_
  intro p e s m9 below meth c9 h C hA hO hN
  have wl3 : Cond.methodLink RX3 3 objectInit ∈ wsX3_init := by decide +kernel
  have wio : Cond.instanceMethod objectInit ∈ wsX3_init := by decide +kernel
  have wco : Cond.code objectInit ⟨#[0xb1]⟩ 1 none ∈ wsX3_init := by decide +kernel
  have wf9 : Cond.fieldLink RX3 9 (TX3 1).1 (TX3 1).2.1 (TX3 1).2.2.1 ∈ wsX3_init := by decide +kernel
  have hinX3 : ∀ w ∈ u_ws RX3 TX3 2, w ∈ wsX3_init := by decide +kernel
  have wm15 : Cond.methodLink RX3 15 Lib.Math.max.name ∈ wsX3_init := by decide +kernel
  have wn : Cond.static Lib.Math.max.name ∈ wsX3_init := by decide +kernel
  have wmi : Cond.initialized "java/lang/Math" ∈ wsX3_init := by decide +kernel
  have wo : Cond.code Lib.Math.max.name Lib.Math.max.code 2 (some .int) ∈ wsX3_init := by decide +kernel
  have waint : Cond.arrayClass .int ∈ wsX3_init := by decide +kernel
  have wf21 : Cond.fieldLink RX3 21 (TX3 0).1 (TX3 0).2.1 (TX3 0).2.2.1 ∈ wsX3_init := by decide +kernel
  refine x_lv (lv' := [(0, .ref q0), (1, .int (iI (40)))]) rfl ?_
  refine x_aload_n C 0 dX3_init_0 rfl ?_
  refine l_oi C wl3 wio wco (by decide) (Nat.le_of_ble_eq_true rfl) dX3_init_1 ?_
  refine x_aload_n C 0 dX3_init_4 rfl ?_
  refine x_iconst C dX3_init_5 ?_
  refine l_put C 0 rfl rfl 1 (by decide) wf9 hinX3 tyX3 tyX3_ok nmX3 rfl (tyX3_ok 1 (by decide)) rfl rfl (Nat.le_of_ble_eq_true rfl) dX3_init_6 (fun h => ?_)
  refine l_ws (ws' := [(q0, .inr (3, [.null, .int (iI (-1))]))]) rfl (fun h => ?_)
  refine x_aload_n C 0 dX3_init_9 rfl ?_
  refine x_iconst C dX3_init_10 ?_
  refine x_iload_n C 1 dX3_init_11 rfl ?_
  refine x_mmax C (by decide) (by decide) wm15 wn wmi wo (by decide) (Nat.le_of_ble_eq_true rfl) (by decide) (by decide) dX3_init_12 ?_
  refine x_st (st' := [.int (iI (40)), .ref q0]) rfl ?_
  refine l_newi C hA waint (by decide) (N := 40) (by decide) (by decide) (by decide) (by decide) dX3_init_15 (fun q1 h => ?_)
  refine l_ws (ws' := [(q0, .inr (3, [.null, .int (iI (-1))])), (q1, .inl (yc 0, 40, .inl (fun _ => 0)))]) rfl (fun h => ?_)
  refine l_putF C 0 rfl rfl 0 (by decide) wf21 hinX3 tyX3 tyX3_ok nmX3 rfl hN rfl (tyX3_ok 0 (by decide)) rfl rfl (Nat.le_of_ble_eq_true rfl) dX3_init_17 (fun h => ?_)
  refine l_ws (ws' := [(q0, .inr (3, [.ref q1, .int (iI (-1))])), (q1, .inl (yc 0, 40, .inl (fun _ => 0)))]) rfl (fun h => ?_)
  exact l_ret C rfl dX3_init_20 ⟨q1, rfl⟩

set_option maxRecDepth 100000 in
set_option maxHeartbeats 40000000 in
theorem c_X3_init_60 (l : Launch) (D : va_G) (yc : Nat → ClassId) (t1 t2 : Nat) (A : Nat → Prop) (q0 : Nat) : CL l yX3_init wsX3_init { frames := 1, cells := 1, slots := 60, locals := 24 } D yc t1 t2 A [.ref q0, .int (iI (60))] [(q0, .inr (3, [.null, .int 0]))] (fun w => ∃ q1 : Nat, w = [(q0, .inr (3, [.ref q1, .int (iI (-1))])), (q1, .inl (yc 0, 60, .inl (fun _ => 0)))]) 1 60 := by
  refine start_L (cc := cX3_init) (nL := 2) (own := RX3) (by decide +kernel) rfl rfl rfl (Nat.le_of_ble_eq_true rfl) ?_
  intro p e s m9 below meth c9 h C hA hO hN
  have wl3 : Cond.methodLink RX3 3 objectInit ∈ wsX3_init := by decide +kernel
  have wio : Cond.instanceMethod objectInit ∈ wsX3_init := by decide +kernel
  have wco : Cond.code objectInit ⟨#[0xb1]⟩ 1 none ∈ wsX3_init := by decide +kernel
  have wf9 : Cond.fieldLink RX3 9 (TX3 1).1 (TX3 1).2.1 (TX3 1).2.2.1 ∈ wsX3_init := by decide +kernel
  have hinX3 : ∀ w ∈ u_ws RX3 TX3 2, w ∈ wsX3_init := by decide +kernel
  have wm15 : Cond.methodLink RX3 15 Lib.Math.max.name ∈ wsX3_init := by decide +kernel
  have wn : Cond.static Lib.Math.max.name ∈ wsX3_init := by decide +kernel
  have wmi : Cond.initialized "java/lang/Math" ∈ wsX3_init := by decide +kernel
  have wo : Cond.code Lib.Math.max.name Lib.Math.max.code 2 (some .int) ∈ wsX3_init := by decide +kernel
  have waint : Cond.arrayClass .int ∈ wsX3_init := by decide +kernel
  have wf21 : Cond.fieldLink RX3 21 (TX3 0).1 (TX3 0).2.1 (TX3 0).2.2.1 ∈ wsX3_init := by decide +kernel
  refine x_lv (lv' := [(0, .ref q0), (1, .int (iI (60)))]) rfl ?_
  refine x_aload_n C 0 dX3_init_0 rfl ?_
  refine l_oi C wl3 wio wco (by decide) (Nat.le_of_ble_eq_true rfl) dX3_init_1 ?_
  refine x_aload_n C 0 dX3_init_4 rfl ?_
  refine x_iconst C dX3_init_5 ?_
  refine l_put C 0 rfl rfl 1 (by decide) wf9 hinX3 tyX3 tyX3_ok nmX3 rfl (tyX3_ok 1 (by decide)) rfl rfl (Nat.le_of_ble_eq_true rfl) dX3_init_6 (fun h => ?_)
  refine l_ws (ws' := [(q0, .inr (3, [.null, .int (iI (-1))]))]) rfl (fun h => ?_)
  refine x_aload_n C 0 dX3_init_9 rfl ?_
  refine x_iconst C dX3_init_10 ?_
  refine x_iload_n C 1 dX3_init_11 rfl ?_
  refine x_mmax C (by decide) (by decide) wm15 wn wmi wo (by decide) (Nat.le_of_ble_eq_true rfl) (by decide) (by decide) dX3_init_12 ?_
  refine x_st (st' := [.int (iI (60)), .ref q0]) rfl ?_
  refine l_newi C hA waint (by decide) (N := 60) (by decide) (by decide) (by decide) (by decide) dX3_init_15 (fun q1 h => ?_)
  refine l_ws (ws' := [(q0, .inr (3, [.null, .int (iI (-1))])), (q1, .inl (yc 0, 60, .inl (fun _ => 0)))]) rfl (fun h => ?_)
  refine l_putF C 0 rfl rfl 0 (by decide) wf21 hinX3 tyX3 tyX3_ok nmX3 rfl hN rfl (tyX3_ok 0 (by decide)) rfl rfl (Nat.le_of_ble_eq_true rfl) dX3_init_17 (fun h => ?_)
  refine l_ws (ws' := [(q0, .inr (3, [.ref q1, .int (iI (-1))])), (q1, .inl (yc 0, 60, .inl (fun _ => 0)))]) rfl (fun h => ?_)
  exact l_ret C rfl dX3_init_20 ⟨q1, rfl⟩

set_option maxRecDepth 100000 in
set_option maxHeartbeats 40000000 in
theorem c_X1_init (l : Launch) (D : va_G) (yc : Nat → ClassId) (t1 t2 : Nat) (A : Nat → Prop) (q0 : Nat) : CL l yX1_init wsX1_init { frames := 2, cells := 11, slots := 170, locals := 32 } D yc t1 t2 A [.ref q0] [(q0, .inr (1, [.null, .null, .null, .null, .null, .int 0, .int 0, .int 0, .int 0, .int 0, .int 0]))] (fun w => ∃ q1 q2 q3 q4 q5 q6 q7 q8 q9 q10 q11 : Nat, w = [(q0, .inr (1, [.ref q1, .ref q2, .ref q3, .ref q4, .ref q5, .int 0, .int 0, .int 0, .int 0, .int 0, .int 0])), (q1, .inl (yc 0, 8, .inl (fun _ => 0))), (q2, .inl (yc 0, 6, .inl (fun _ => 0))), (q3, .inl (yc 2, 6, .inr (.inr (.inr (.inr (va_up (va_up (va_up (va_up (va_up (va_up (fun _ => none) 0 (some q6)) 1 (some q7)) 2 (some q8)) 3 (some q9)) 4 (some q10)) 5 (some q11))))))), (q4, .inl (yc 0, 60, .inl (fun _ => 0))), (q5, .inl (yc 0, 60, .inl (fun _ => 0))), (q6, .inr (0, [.int 0, .int 0, .int 0, .int 0, .int 0])), (q7, .inr (0, [.int 0, .int 0, .int 0, .int 0, .int 0])), (q8, .inr (0, [.int 0, .int 0, .int 0, .int 0, .int 0])), (q9, .inr (0, [.int 0, .int 0, .int 0, .int 0, .int 0])), (q10, .inr (0, [.int 0, .int 0, .int 0, .int 0, .int 0])), (q11, .inr (0, [.int 0, .int 0, .int 0, .int 0, .int 0]))]) 11 170 := by
  refine start_L (cc := cX1_init) (nL := 2) (own := RX1) (by decide +kernel) rfl rfl rfl (Nat.le_of_ble_eq_true rfl) ?_
  intro p e s m9 below meth c9 h C hA hO hN
  have wl3 : Cond.methodLink RX1 3 objectInit ∈ wsX1_init := by decide +kernel
  have wio : Cond.instanceMethod objectInit ∈ wsX1_init := by decide +kernel
  have wco : Cond.code objectInit ⟨#[0xb1]⟩ 1 none ∈ wsX1_init := by decide +kernel
  have waint : Cond.arrayClass .int ∈ wsX1_init := by decide +kernel
  have wf9 : Cond.fieldLink RX1 9 (TX1 0).1 (TX1 0).2.1 (TX1 0).2.2.1 ∈ wsX1_init := by decide +kernel
  have hinX1 : ∀ w ∈ u_ws RX1 TX1 11, w ∈ wsX1_init := by decide +kernel
  have wf15 : Cond.fieldLink RX1 15 (TX1 1).1 (TX1 1).2.1 (TX1 1).2.2.1 ∈ wsX1_init := by decide +kernel
  have wc18 : Cond.classLink RX1 18 RX0 ∈ wsX1_init := by decide +kernel
  have wf20 : Cond.fieldLink RX1 20 (TX1 2).1 (TX1 2).2.1 (TX1 2).2.2.1 ∈ wsX1_init := by decide +kernel
  have wf24 : Cond.fieldLink RX1 24 (TX1 3).1 (TX1 3).2.1 (TX1 3).2.2.1 ∈ wsX1_init := by decide +kernel
  have wf27 : Cond.fieldLink RX1 27 (TX1 4).1 (TX1 4).2.1 (TX1 4).2.2.1 ∈ wsX1_init := by decide +kernel
  have wiX0 : Cond.instantiable RX0 5 ∈ wsX1_init := by decide +kernel
  have wzX0 : Cond.initialized RX0 ∈ wsX1_init := by decide +kernel
  have hinX0 : ∀ w ∈ u_ws RX0 TX0 5, w ∈ wsX1_init := by decide +kernel
  have wimX0_init : Cond.instanceMethod yX0_init ∈ wsX1_init := by decide +kernel
  refine x_lv (lv' := [(0, .ref q0)]) rfl ?_
  refine x_aload_n C 0 dX1_init_0 rfl ?_
  refine l_oi C wl3 wio wco (by decide) (Nat.le_of_ble_eq_true rfl) dX1_init_1 ?_
  refine x_aload_n C 0 dX1_init_4 rfl ?_
  refine x_bipush C dX1_init_5 (by decide) ?_
  refine l_newi C hA waint (by decide) (N := 8) (by decide) (by decide) (by decide) (by decide) dX1_init_7 (fun q1 h => ?_)
  refine l_ws (ws' := [(q0, .inr (1, [.null, .null, .null, .null, .null, .int 0, .int 0, .int 0, .int 0, .int 0, .int 0])), (q1, .inl (yc 0, 8, .inl (fun _ => 0)))]) rfl (fun h => ?_)
  refine l_putF C 0 rfl rfl 0 (by decide) wf9 hinX1 tyX1 tyX1_ok nmX1 rfl hN rfl (tyX1_ok 0 (by decide)) rfl rfl (Nat.le_of_ble_eq_true rfl) dX1_init_9 (fun h => ?_)
  refine l_ws (ws' := [(q0, .inr (1, [.ref q1, .null, .null, .null, .null, .int 0, .int 0, .int 0, .int 0, .int 0, .int 0])), (q1, .inl (yc 0, 8, .inl (fun _ => 0)))]) rfl (fun h => ?_)
  refine x_aload_n C 0 dX1_init_12 rfl ?_
  refine x_bipush C dX1_init_13 (by decide) ?_
  refine l_newi C hA waint (by decide) (N := 6) (by decide) (by decide) (by decide) (by decide) dX1_init_15 (fun q2 h => ?_)
  refine l_ws (ws' := [(q0, .inr (1, [.ref q1, .null, .null, .null, .null, .int 0, .int 0, .int 0, .int 0, .int 0, .int 0])), (q1, .inl (yc 0, 8, .inl (fun _ => 0))), (q2, .inl (yc 0, 6, .inl (fun _ => 0)))]) rfl (fun h => ?_)
  refine l_putF C 0 rfl rfl 1 (by decide) wf15 hinX1 tyX1 tyX1_ok nmX1 rfl hN rfl (tyX1_ok 1 (by decide)) rfl rfl (Nat.le_of_ble_eq_true rfl) dX1_init_17 (fun h => ?_)
  refine l_ws (ws' := [(q0, .inr (1, [.ref q1, .ref q2, .null, .null, .null, .int 0, .int 0, .int 0, .int 0, .int 0, .int 0])), (q1, .inl (yc 0, 8, .inl (fun _ => 0))), (q2, .inl (yc 0, 6, .inl (fun _ => 0)))]) rfl (fun h => ?_)
  refine x_aload_n C 0 dX1_init_20 rfl ?_
  refine x_bipush C dX1_init_21 (by decide) ?_
  refine l_newq C hA 2 rfl wc18 hO.1 (by decide) (N := 6) (by decide) (by decide) (by decide) (by decide) dX1_init_23 (fun q3 h => ?_)
  refine l_ws (ws' := [(q0, .inr (1, [.ref q1, .ref q2, .null, .null, .null, .int 0, .int 0, .int 0, .int 0, .int 0, .int 0])), (q1, .inl (yc 0, 8, .inl (fun _ => 0))), (q2, .inl (yc 0, 6, .inl (fun _ => 0))), (q3, .inl (yc 2, 6, .inr (.inr (.inr (.inr (fun _ => none))))))]) rfl (fun h => ?_)
  refine l_putF C 0 rfl rfl 2 (by decide) wf20 hinX1 tyX1 tyX1_ok nmX1 rfl hN rfl (tyX1_ok 2 (by decide)) rfl rfl (Nat.le_of_ble_eq_true rfl) dX1_init_26 (fun h => ?_)
  refine l_ws (ws' := [(q0, .inr (1, [.ref q1, .ref q2, .ref q3, .null, .null, .int 0, .int 0, .int 0, .int 0, .int 0, .int 0])), (q1, .inl (yc 0, 8, .inl (fun _ => 0))), (q2, .inl (yc 0, 6, .inl (fun _ => 0))), (q3, .inl (yc 2, 6, .inr (.inr (.inr (.inr (fun _ => none))))))]) rfl (fun h => ?_)
  refine x_aload_n C 0 dX1_init_29 rfl ?_
  refine x_bipush C dX1_init_30 (by decide) ?_
  refine l_newi C hA waint (by decide) (N := 60) (by decide) (by decide) (by decide) (by decide) dX1_init_32 (fun q4 h => ?_)
  refine l_ws (ws' := [(q0, .inr (1, [.ref q1, .ref q2, .ref q3, .null, .null, .int 0, .int 0, .int 0, .int 0, .int 0, .int 0])), (q1, .inl (yc 0, 8, .inl (fun _ => 0))), (q2, .inl (yc 0, 6, .inl (fun _ => 0))), (q3, .inl (yc 2, 6, .inr (.inr (.inr (.inr (fun _ => none)))))), (q4, .inl (yc 0, 60, .inl (fun _ => 0)))]) rfl (fun h => ?_)
  refine l_putF C 0 rfl rfl 3 (by decide) wf24 hinX1 tyX1 tyX1_ok nmX1 rfl hN rfl (tyX1_ok 3 (by decide)) rfl rfl (Nat.le_of_ble_eq_true rfl) dX1_init_34 (fun h => ?_)
  refine l_ws (ws' := [(q0, .inr (1, [.ref q1, .ref q2, .ref q3, .ref q4, .null, .int 0, .int 0, .int 0, .int 0, .int 0, .int 0])), (q1, .inl (yc 0, 8, .inl (fun _ => 0))), (q2, .inl (yc 0, 6, .inl (fun _ => 0))), (q3, .inl (yc 2, 6, .inr (.inr (.inr (.inr (fun _ => none)))))), (q4, .inl (yc 0, 60, .inl (fun _ => 0)))]) rfl (fun h => ?_)
  refine x_aload_n C 0 dX1_init_37 rfl ?_
  refine x_bipush C dX1_init_38 (by decide) ?_
  refine l_newi C hA waint (by decide) (N := 60) (by decide) (by decide) (by decide) (by decide) dX1_init_40 (fun q5 h => ?_)
  refine l_ws (ws' := [(q0, .inr (1, [.ref q1, .ref q2, .ref q3, .ref q4, .null, .int 0, .int 0, .int 0, .int 0, .int 0, .int 0])), (q1, .inl (yc 0, 8, .inl (fun _ => 0))), (q2, .inl (yc 0, 6, .inl (fun _ => 0))), (q3, .inl (yc 2, 6, .inr (.inr (.inr (.inr (fun _ => none)))))), (q4, .inl (yc 0, 60, .inl (fun _ => 0))), (q5, .inl (yc 0, 60, .inl (fun _ => 0)))]) rfl (fun h => ?_)
  refine l_putF C 0 rfl rfl 4 (by decide) wf27 hinX1 tyX1 tyX1_ok nmX1 rfl hN rfl (tyX1_ok 4 (by decide)) rfl rfl (Nat.le_of_ble_eq_true rfl) dX1_init_42 (fun h => ?_)
  refine l_ws (ws' := [(q0, .inr (1, [.ref q1, .ref q2, .ref q3, .ref q4, .ref q5, .int 0, .int 0, .int 0, .int 0, .int 0, .int 0])), (q1, .inl (yc 0, 8, .inl (fun _ => 0))), (q2, .inl (yc 0, 6, .inl (fun _ => 0))), (q3, .inl (yc 2, 6, .inr (.inr (.inr (.inr (fun _ => none)))))), (q4, .inl (yc 0, 60, .inl (fun _ => 0))), (q5, .inl (yc 0, 60, .inl (fun _ => 0)))]) rfl (fun h => ?_)
  refine x_iconst C dX1_init_45 ?_
  refine x_istore_n (lv' := [(1, .int (iI (0))), (0, .ref q0)]) C dX1_init_46 (by decide) rfl ?_
  refine x_iload_n C 0 dX1_init_47 rfl ?_
  refine x_bipush C dX1_init_48 (by decide) ?_
  refine x_icmp_ge (tgt := 72) C dX1_init_50 (by decide) (by decide) (by decide) (fun h9 => absurd h9 (by decide)) (fun _ => ?_)
  refine x_aload_n C 1 dX1_init_53 rfl ?_
  refine l_get C 0 rfl rfl 2 (by decide) wf20 hinX1 rfl dX1_init_54 ?_
  refine x_iload_n C 0 dX1_init_57 rfl ?_
  refine l_new (ci := 0) (fs := [.int 0, .int 0, .int 0, .int 0, .int 0]) C hA hinX0 tyX0 tyX0_ok wc18 wiX0 wzX0 rfl dfX0 (by decide) (by decide) dX1_init_58 (fun q6 h => ?_)
  refine l_ws (ws' := [(q0, .inr (1, [.ref q1, .ref q2, .ref q3, .ref q4, .ref q5, .int 0, .int 0, .int 0, .int 0, .int 0, .int 0])), (q1, .inl (yc 0, 8, .inl (fun _ => 0))), (q2, .inl (yc 0, 6, .inl (fun _ => 0))), (q3, .inl (yc 2, 6, .inr (.inr (.inr (.inr (fun _ => none)))))), (q4, .inl (yc 0, 60, .inl (fun _ => 0))), (q5, .inl (yc 0, 60, .inl (fun _ => 0))), (q6, .inr (0, [.int 0, .int 0, .int 0, .int 0, .int 0]))]) rfl (fun h => ?_)
  refine x_dup C dX1_init_61 rfl ?_
  refine l_callIN (wr := [(q0, .inr (1, [.ref q1, .ref q2, .ref q3, .ref q4, .ref q5, .int 0, .int 0, .int 0, .int 0, .int 0, .int 0])), (q1, .inl (yc 0, 8, .inl (fun _ => 0))), (q2, .inl (yc 0, 6, .inl (fun _ => 0))), (q3, .inl (yc 2, 6, .inr (.inr (.inr (.inr (fun _ => none)))))), (q4, .inl (yc 0, 60, .inl (fun _ => 0))), (q5, .inl (yc 0, 60, .inl (fun _ => 0)))]) (x := .inr (0, [.int 0, .int 0, .int 0, .int 0, .int 0])) (b := q6) C hA hO (As := []) (rest := [.ref q6, .int (iI (0)), .ref q3]) (fun A1 => c_X0_init l D yc t1 t2 A1 q6) ⟨va_cnB 0 C.hts gX1_init_X0_init_n30 rfl rfl rfl C.hF.2.2.2.2.2 (C.hts _ wzX0) (by decide +kernel) ⟨?_, ?_⟩, rfl, C.hts _ wimX0_init⟩ rfl rfl (Nat.le_of_ble_eq_true rfl) ⟨?_, ?_⟩ dX1_init_62 ?_
  · decide
  · decide
  · decide
  · decide
  rintro w9 rfl h
  refine l_ws (ws' := [(q0, .inr (1, [.ref q1, .ref q2, .ref q3, .ref q4, .ref q5, .int 0, .int 0, .int 0, .int 0, .int 0, .int 0])), (q1, .inl (yc 0, 8, .inl (fun _ => 0))), (q2, .inl (yc 0, 6, .inl (fun _ => 0))), (q3, .inl (yc 2, 6, .inr (.inr (.inr (.inr (fun _ => none)))))), (q4, .inl (yc 0, 60, .inl (fun _ => 0))), (q5, .inl (yc 0, 60, .inl (fun _ => 0))), (q6, .inr (0, [.int 0, .int 0, .int 0, .int 0, .int 0]))]) rfl (fun h => ?_)
  refine l_aast C 3 2 6 0 rfl rfl rfl rfl (iI_in (by decide) (by decide) (by decide)) (n := 0) (by decide) dX1_init_65 (fun h => ?_)
  refine l_ws (ws' := [(q0, .inr (1, [.ref q1, .ref q2, .ref q3, .ref q4, .ref q5, .int 0, .int 0, .int 0, .int 0, .int 0, .int 0])), (q1, .inl (yc 0, 8, .inl (fun _ => 0))), (q2, .inl (yc 0, 6, .inl (fun _ => 0))), (q3, .inl (yc 2, 6, .inr (.inr (.inr (.inr (va_up (fun _ => none) 0 (some q6))))))), (q4, .inl (yc 0, 60, .inl (fun _ => 0))), (q5, .inl (yc 0, 60, .inl (fun _ => 0))), (q6, .inr (0, [.int 0, .int 0, .int 0, .int 0, .int 0]))]) rfl (fun h => ?_)
  refine x_iinc (z' := 1) (lv' := [(1, .int (iI (1))), (0, .ref q0)]) C 0 dX1_init_66 rfl (by decide) (by decide) rfl ?_
  refine x_goto (tgt := 47) C dX1_init_69 (by decide) ?_
  refine x_iload_n C 0 dX1_init_47 rfl ?_
  refine x_bipush C dX1_init_48 (by decide) ?_
  refine x_icmp_ge (tgt := 72) C dX1_init_50 (by decide) (by decide) (by decide) (fun h9 => absurd h9 (by decide)) (fun _ => ?_)
  refine x_aload_n C 1 dX1_init_53 rfl ?_
  refine l_get C 0 rfl rfl 2 (by decide) wf20 hinX1 rfl dX1_init_54 ?_
  refine x_iload_n C 0 dX1_init_57 rfl ?_
  refine l_new (ci := 0) (fs := [.int 0, .int 0, .int 0, .int 0, .int 0]) C hA hinX0 tyX0 tyX0_ok wc18 wiX0 wzX0 rfl dfX0 (by decide) (by decide) dX1_init_58 (fun q7 h => ?_)
  refine l_ws (ws' := [(q0, .inr (1, [.ref q1, .ref q2, .ref q3, .ref q4, .ref q5, .int 0, .int 0, .int 0, .int 0, .int 0, .int 0])), (q1, .inl (yc 0, 8, .inl (fun _ => 0))), (q2, .inl (yc 0, 6, .inl (fun _ => 0))), (q3, .inl (yc 2, 6, .inr (.inr (.inr (.inr (va_up (fun _ => none) 0 (some q6))))))), (q4, .inl (yc 0, 60, .inl (fun _ => 0))), (q5, .inl (yc 0, 60, .inl (fun _ => 0))), (q6, .inr (0, [.int 0, .int 0, .int 0, .int 0, .int 0])), (q7, .inr (0, [.int 0, .int 0, .int 0, .int 0, .int 0]))]) rfl (fun h => ?_)
  refine x_dup C dX1_init_61 rfl ?_
  refine l_callIN (wr := [(q0, .inr (1, [.ref q1, .ref q2, .ref q3, .ref q4, .ref q5, .int 0, .int 0, .int 0, .int 0, .int 0, .int 0])), (q1, .inl (yc 0, 8, .inl (fun _ => 0))), (q2, .inl (yc 0, 6, .inl (fun _ => 0))), (q3, .inl (yc 2, 6, .inr (.inr (.inr (.inr (va_up (fun _ => none) 0 (some q6))))))), (q4, .inl (yc 0, 60, .inl (fun _ => 0))), (q5, .inl (yc 0, 60, .inl (fun _ => 0))), (q6, .inr (0, [.int 0, .int 0, .int 0, .int 0, .int 0]))]) (x := .inr (0, [.int 0, .int 0, .int 0, .int 0, .int 0])) (b := q7) C hA hO (As := []) (rest := [.ref q7, .int (iI (1)), .ref q3]) (fun A1 => c_X0_init l D yc t1 t2 A1 q7) ⟨va_cnB 0 C.hts gX1_init_X0_init_n30 rfl rfl rfl C.hF.2.2.2.2.2 (C.hts _ wzX0) (by decide +kernel) ⟨?_, ?_⟩, rfl, C.hts _ wimX0_init⟩ rfl rfl (Nat.le_of_ble_eq_true rfl) ⟨?_, ?_⟩ dX1_init_62 ?_
  · decide
  · decide
  · decide
  · decide
  rintro w9 rfl h
  refine l_ws (ws' := [(q0, .inr (1, [.ref q1, .ref q2, .ref q3, .ref q4, .ref q5, .int 0, .int 0, .int 0, .int 0, .int 0, .int 0])), (q1, .inl (yc 0, 8, .inl (fun _ => 0))), (q2, .inl (yc 0, 6, .inl (fun _ => 0))), (q3, .inl (yc 2, 6, .inr (.inr (.inr (.inr (va_up (fun _ => none) 0 (some q6))))))), (q4, .inl (yc 0, 60, .inl (fun _ => 0))), (q5, .inl (yc 0, 60, .inl (fun _ => 0))), (q6, .inr (0, [.int 0, .int 0, .int 0, .int 0, .int 0])), (q7, .inr (0, [.int 0, .int 0, .int 0, .int 0, .int 0]))]) rfl (fun h => ?_)
  refine l_aast C 3 2 7 0 rfl rfl rfl rfl (iI_in (by decide) (by decide) (by decide)) (n := 1) (by decide) dX1_init_65 (fun h => ?_)
  refine l_ws (ws' := [(q0, .inr (1, [.ref q1, .ref q2, .ref q3, .ref q4, .ref q5, .int 0, .int 0, .int 0, .int 0, .int 0, .int 0])), (q1, .inl (yc 0, 8, .inl (fun _ => 0))), (q2, .inl (yc 0, 6, .inl (fun _ => 0))), (q3, .inl (yc 2, 6, .inr (.inr (.inr (.inr (va_up (va_up (fun _ => none) 0 (some q6)) 1 (some q7))))))), (q4, .inl (yc 0, 60, .inl (fun _ => 0))), (q5, .inl (yc 0, 60, .inl (fun _ => 0))), (q6, .inr (0, [.int 0, .int 0, .int 0, .int 0, .int 0])), (q7, .inr (0, [.int 0, .int 0, .int 0, .int 0, .int 0]))]) rfl (fun h => ?_)
  refine x_iinc (z' := 2) (lv' := [(1, .int (iI (2))), (0, .ref q0)]) C 0 dX1_init_66 rfl (by decide) (by decide) rfl ?_
  refine x_goto (tgt := 47) C dX1_init_69 (by decide) ?_
  refine x_iload_n C 0 dX1_init_47 rfl ?_
  refine x_bipush C dX1_init_48 (by decide) ?_
  refine x_icmp_ge (tgt := 72) C dX1_init_50 (by decide) (by decide) (by decide) (fun h9 => absurd h9 (by decide)) (fun _ => ?_)
  refine x_aload_n C 1 dX1_init_53 rfl ?_
  refine l_get C 0 rfl rfl 2 (by decide) wf20 hinX1 rfl dX1_init_54 ?_
  refine x_iload_n C 0 dX1_init_57 rfl ?_
  refine l_new (ci := 0) (fs := [.int 0, .int 0, .int 0, .int 0, .int 0]) C hA hinX0 tyX0 tyX0_ok wc18 wiX0 wzX0 rfl dfX0 (by decide) (by decide) dX1_init_58 (fun q8 h => ?_)
  refine l_ws (ws' := [(q0, .inr (1, [.ref q1, .ref q2, .ref q3, .ref q4, .ref q5, .int 0, .int 0, .int 0, .int 0, .int 0, .int 0])), (q1, .inl (yc 0, 8, .inl (fun _ => 0))), (q2, .inl (yc 0, 6, .inl (fun _ => 0))), (q3, .inl (yc 2, 6, .inr (.inr (.inr (.inr (va_up (va_up (fun _ => none) 0 (some q6)) 1 (some q7))))))), (q4, .inl (yc 0, 60, .inl (fun _ => 0))), (q5, .inl (yc 0, 60, .inl (fun _ => 0))), (q6, .inr (0, [.int 0, .int 0, .int 0, .int 0, .int 0])), (q7, .inr (0, [.int 0, .int 0, .int 0, .int 0, .int 0])), (q8, .inr (0, [.int 0, .int 0, .int 0, .int 0, .int 0]))]) rfl (fun h => ?_)
  refine x_dup C dX1_init_61 rfl ?_
  refine l_callIN (wr := [(q0, .inr (1, [.ref q1, .ref q2, .ref q3, .ref q4, .ref q5, .int 0, .int 0, .int 0, .int 0, .int 0, .int 0])), (q1, .inl (yc 0, 8, .inl (fun _ => 0))), (q2, .inl (yc 0, 6, .inl (fun _ => 0))), (q3, .inl (yc 2, 6, .inr (.inr (.inr (.inr (va_up (va_up (fun _ => none) 0 (some q6)) 1 (some q7))))))), (q4, .inl (yc 0, 60, .inl (fun _ => 0))), (q5, .inl (yc 0, 60, .inl (fun _ => 0))), (q6, .inr (0, [.int 0, .int 0, .int 0, .int 0, .int 0])), (q7, .inr (0, [.int 0, .int 0, .int 0, .int 0, .int 0]))]) (x := .inr (0, [.int 0, .int 0, .int 0, .int 0, .int 0])) (b := q8) C hA hO (As := []) (rest := [.ref q8, .int (iI (2)), .ref q3]) (fun A1 => c_X0_init l D yc t1 t2 A1 q8) ⟨va_cnB 0 C.hts gX1_init_X0_init_n30 rfl rfl rfl C.hF.2.2.2.2.2 (C.hts _ wzX0) (by decide +kernel) ⟨?_, ?_⟩, rfl, C.hts _ wimX0_init⟩ rfl rfl (Nat.le_of_ble_eq_true rfl) ⟨?_, ?_⟩ dX1_init_62 ?_
  · decide
  · decide
  · decide
  · decide
  rintro w9 rfl h
  refine l_ws (ws' := [(q0, .inr (1, [.ref q1, .ref q2, .ref q3, .ref q4, .ref q5, .int 0, .int 0, .int 0, .int 0, .int 0, .int 0])), (q1, .inl (yc 0, 8, .inl (fun _ => 0))), (q2, .inl (yc 0, 6, .inl (fun _ => 0))), (q3, .inl (yc 2, 6, .inr (.inr (.inr (.inr (va_up (va_up (fun _ => none) 0 (some q6)) 1 (some q7))))))), (q4, .inl (yc 0, 60, .inl (fun _ => 0))), (q5, .inl (yc 0, 60, .inl (fun _ => 0))), (q6, .inr (0, [.int 0, .int 0, .int 0, .int 0, .int 0])), (q7, .inr (0, [.int 0, .int 0, .int 0, .int 0, .int 0])), (q8, .inr (0, [.int 0, .int 0, .int 0, .int 0, .int 0]))]) rfl (fun h => ?_)
  refine l_aast C 3 2 8 0 rfl rfl rfl rfl (iI_in (by decide) (by decide) (by decide)) (n := 2) (by decide) dX1_init_65 (fun h => ?_)
  refine l_ws (ws' := [(q0, .inr (1, [.ref q1, .ref q2, .ref q3, .ref q4, .ref q5, .int 0, .int 0, .int 0, .int 0, .int 0, .int 0])), (q1, .inl (yc 0, 8, .inl (fun _ => 0))), (q2, .inl (yc 0, 6, .inl (fun _ => 0))), (q3, .inl (yc 2, 6, .inr (.inr (.inr (.inr (va_up (va_up (va_up (fun _ => none) 0 (some q6)) 1 (some q7)) 2 (some q8))))))), (q4, .inl (yc 0, 60, .inl (fun _ => 0))), (q5, .inl (yc 0, 60, .inl (fun _ => 0))), (q6, .inr (0, [.int 0, .int 0, .int 0, .int 0, .int 0])), (q7, .inr (0, [.int 0, .int 0, .int 0, .int 0, .int 0])), (q8, .inr (0, [.int 0, .int 0, .int 0, .int 0, .int 0]))]) rfl (fun h => ?_)
  refine x_iinc (z' := 3) (lv' := [(1, .int (iI (3))), (0, .ref q0)]) C 0 dX1_init_66 rfl (by decide) (by decide) rfl ?_
  refine x_goto (tgt := 47) C dX1_init_69 (by decide) ?_
  refine x_iload_n C 0 dX1_init_47 rfl ?_
  refine x_bipush C dX1_init_48 (by decide) ?_
  refine x_icmp_ge (tgt := 72) C dX1_init_50 (by decide) (by decide) (by decide) (fun h9 => absurd h9 (by decide)) (fun _ => ?_)
  refine x_aload_n C 1 dX1_init_53 rfl ?_
  refine l_get C 0 rfl rfl 2 (by decide) wf20 hinX1 rfl dX1_init_54 ?_
  refine x_iload_n C 0 dX1_init_57 rfl ?_
  refine l_new (ci := 0) (fs := [.int 0, .int 0, .int 0, .int 0, .int 0]) C hA hinX0 tyX0 tyX0_ok wc18 wiX0 wzX0 rfl dfX0 (by decide) (by decide) dX1_init_58 (fun q9 h => ?_)
  refine l_ws (ws' := [(q0, .inr (1, [.ref q1, .ref q2, .ref q3, .ref q4, .ref q5, .int 0, .int 0, .int 0, .int 0, .int 0, .int 0])), (q1, .inl (yc 0, 8, .inl (fun _ => 0))), (q2, .inl (yc 0, 6, .inl (fun _ => 0))), (q3, .inl (yc 2, 6, .inr (.inr (.inr (.inr (va_up (va_up (va_up (fun _ => none) 0 (some q6)) 1 (some q7)) 2 (some q8))))))), (q4, .inl (yc 0, 60, .inl (fun _ => 0))), (q5, .inl (yc 0, 60, .inl (fun _ => 0))), (q6, .inr (0, [.int 0, .int 0, .int 0, .int 0, .int 0])), (q7, .inr (0, [.int 0, .int 0, .int 0, .int 0, .int 0])), (q8, .inr (0, [.int 0, .int 0, .int 0, .int 0, .int 0])), (q9, .inr (0, [.int 0, .int 0, .int 0, .int 0, .int 0]))]) rfl (fun h => ?_)
  refine x_dup C dX1_init_61 rfl ?_
  refine l_callIN (wr := [(q0, .inr (1, [.ref q1, .ref q2, .ref q3, .ref q4, .ref q5, .int 0, .int 0, .int 0, .int 0, .int 0, .int 0])), (q1, .inl (yc 0, 8, .inl (fun _ => 0))), (q2, .inl (yc 0, 6, .inl (fun _ => 0))), (q3, .inl (yc 2, 6, .inr (.inr (.inr (.inr (va_up (va_up (va_up (fun _ => none) 0 (some q6)) 1 (some q7)) 2 (some q8))))))), (q4, .inl (yc 0, 60, .inl (fun _ => 0))), (q5, .inl (yc 0, 60, .inl (fun _ => 0))), (q6, .inr (0, [.int 0, .int 0, .int 0, .int 0, .int 0])), (q7, .inr (0, [.int 0, .int 0, .int 0, .int 0, .int 0])), (q8, .inr (0, [.int 0, .int 0, .int 0, .int 0, .int 0]))]) (x := .inr (0, [.int 0, .int 0, .int 0, .int 0, .int 0])) (b := q9) C hA hO (As := []) (rest := [.ref q9, .int (iI (3)), .ref q3]) (fun A1 => c_X0_init l D yc t1 t2 A1 q9) ⟨va_cnB 0 C.hts gX1_init_X0_init_n30 rfl rfl rfl C.hF.2.2.2.2.2 (C.hts _ wzX0) (by decide +kernel) ⟨?_, ?_⟩, rfl, C.hts _ wimX0_init⟩ rfl rfl (Nat.le_of_ble_eq_true rfl) ⟨?_, ?_⟩ dX1_init_62 ?_
  · decide
  · decide
  · decide
  · decide
  rintro w9 rfl h
  refine l_ws (ws' := [(q0, .inr (1, [.ref q1, .ref q2, .ref q3, .ref q4, .ref q5, .int 0, .int 0, .int 0, .int 0, .int 0, .int 0])), (q1, .inl (yc 0, 8, .inl (fun _ => 0))), (q2, .inl (yc 0, 6, .inl (fun _ => 0))), (q3, .inl (yc 2, 6, .inr (.inr (.inr (.inr (va_up (va_up (va_up (fun _ => none) 0 (some q6)) 1 (some q7)) 2 (some q8))))))), (q4, .inl (yc 0, 60, .inl (fun _ => 0))), (q5, .inl (yc 0, 60, .inl (fun _ => 0))), (q6, .inr (0, [.int 0, .int 0, .int 0, .int 0, .int 0])), (q7, .inr (0, [.int 0, .int 0, .int 0, .int 0, .int 0])), (q8, .inr (0, [.int 0, .int 0, .int 0, .int 0, .int 0])), (q9, .inr (0, [.int 0, .int 0, .int 0, .int 0, .int 0]))]) rfl (fun h => ?_)
  refine l_aast C 3 2 9 0 rfl rfl rfl rfl (iI_in (by decide) (by decide) (by decide)) (n := 3) (by decide) dX1_init_65 (fun h => ?_)
  refine l_ws (ws' := [(q0, .inr (1, [.ref q1, .ref q2, .ref q3, .ref q4, .ref q5, .int 0, .int 0, .int 0, .int 0, .int 0, .int 0])), (q1, .inl (yc 0, 8, .inl (fun _ => 0))), (q2, .inl (yc 0, 6, .inl (fun _ => 0))), (q3, .inl (yc 2, 6, .inr (.inr (.inr (.inr (va_up (va_up (va_up (va_up (fun _ => none) 0 (some q6)) 1 (some q7)) 2 (some q8)) 3 (some q9))))))), (q4, .inl (yc 0, 60, .inl (fun _ => 0))), (q5, .inl (yc 0, 60, .inl (fun _ => 0))), (q6, .inr (0, [.int 0, .int 0, .int 0, .int 0, .int 0])), (q7, .inr (0, [.int 0, .int 0, .int 0, .int 0, .int 0])), (q8, .inr (0, [.int 0, .int 0, .int 0, .int 0, .int 0])), (q9, .inr (0, [.int 0, .int 0, .int 0, .int 0, .int 0]))]) rfl (fun h => ?_)
  refine x_iinc (z' := 4) (lv' := [(1, .int (iI (4))), (0, .ref q0)]) C 0 dX1_init_66 rfl (by decide) (by decide) rfl ?_
  refine x_goto (tgt := 47) C dX1_init_69 (by decide) ?_
  refine x_iload_n C 0 dX1_init_47 rfl ?_
  refine x_bipush C dX1_init_48 (by decide) ?_
  refine x_icmp_ge (tgt := 72) C dX1_init_50 (by decide) (by decide) (by decide) (fun h9 => absurd h9 (by decide)) (fun _ => ?_)
  refine x_aload_n C 1 dX1_init_53 rfl ?_
  refine l_get C 0 rfl rfl 2 (by decide) wf20 hinX1 rfl dX1_init_54 ?_
  refine x_iload_n C 0 dX1_init_57 rfl ?_
  refine l_new (ci := 0) (fs := [.int 0, .int 0, .int 0, .int 0, .int 0]) C hA hinX0 tyX0 tyX0_ok wc18 wiX0 wzX0 rfl dfX0 (by decide) (by decide) dX1_init_58 (fun q10 h => ?_)
  refine l_ws (ws' := [(q0, .inr (1, [.ref q1, .ref q2, .ref q3, .ref q4, .ref q5, .int 0, .int 0, .int 0, .int 0, .int 0, .int 0])), (q1, .inl (yc 0, 8, .inl (fun _ => 0))), (q2, .inl (yc 0, 6, .inl (fun _ => 0))), (q3, .inl (yc 2, 6, .inr (.inr (.inr (.inr (va_up (va_up (va_up (va_up (fun _ => none) 0 (some q6)) 1 (some q7)) 2 (some q8)) 3 (some q9))))))), (q4, .inl (yc 0, 60, .inl (fun _ => 0))), (q5, .inl (yc 0, 60, .inl (fun _ => 0))), (q6, .inr (0, [.int 0, .int 0, .int 0, .int 0, .int 0])), (q7, .inr (0, [.int 0, .int 0, .int 0, .int 0, .int 0])), (q8, .inr (0, [.int 0, .int 0, .int 0, .int 0, .int 0])), (q9, .inr (0, [.int 0, .int 0, .int 0, .int 0, .int 0])), (q10, .inr (0, [.int 0, .int 0, .int 0, .int 0, .int 0]))]) rfl (fun h => ?_)
  refine x_dup C dX1_init_61 rfl ?_
  refine l_callIN (wr := [(q0, .inr (1, [.ref q1, .ref q2, .ref q3, .ref q4, .ref q5, .int 0, .int 0, .int 0, .int 0, .int 0, .int 0])), (q1, .inl (yc 0, 8, .inl (fun _ => 0))), (q2, .inl (yc 0, 6, .inl (fun _ => 0))), (q3, .inl (yc 2, 6, .inr (.inr (.inr (.inr (va_up (va_up (va_up (va_up (fun _ => none) 0 (some q6)) 1 (some q7)) 2 (some q8)) 3 (some q9))))))), (q4, .inl (yc 0, 60, .inl (fun _ => 0))), (q5, .inl (yc 0, 60, .inl (fun _ => 0))), (q6, .inr (0, [.int 0, .int 0, .int 0, .int 0, .int 0])), (q7, .inr (0, [.int 0, .int 0, .int 0, .int 0, .int 0])), (q8, .inr (0, [.int 0, .int 0, .int 0, .int 0, .int 0])), (q9, .inr (0, [.int 0, .int 0, .int 0, .int 0, .int 0]))]) (x := .inr (0, [.int 0, .int 0, .int 0, .int 0, .int 0])) (b := q10) C hA hO (As := []) (rest := [.ref q10, .int (iI (4)), .ref q3]) (fun A1 => c_X0_init l D yc t1 t2 A1 q10) ⟨va_cnB 0 C.hts gX1_init_X0_init_n30 rfl rfl rfl C.hF.2.2.2.2.2 (C.hts _ wzX0) (by decide +kernel) ⟨?_, ?_⟩, rfl, C.hts _ wimX0_init⟩ rfl rfl (Nat.le_of_ble_eq_true rfl) ⟨?_, ?_⟩ dX1_init_62 ?_
  · decide
  · decide
  · decide
  · decide
  rintro w9 rfl h
  refine l_ws (ws' := [(q0, .inr (1, [.ref q1, .ref q2, .ref q3, .ref q4, .ref q5, .int 0, .int 0, .int 0, .int 0, .int 0, .int 0])), (q1, .inl (yc 0, 8, .inl (fun _ => 0))), (q2, .inl (yc 0, 6, .inl (fun _ => 0))), (q3, .inl (yc 2, 6, .inr (.inr (.inr (.inr (va_up (va_up (va_up (va_up (fun _ => none) 0 (some q6)) 1 (some q7)) 2 (some q8)) 3 (some q9))))))), (q4, .inl (yc 0, 60, .inl (fun _ => 0))), (q5, .inl (yc 0, 60, .inl (fun _ => 0))), (q6, .inr (0, [.int 0, .int 0, .int 0, .int 0, .int 0])), (q7, .inr (0, [.int 0, .int 0, .int 0, .int 0, .int 0])), (q8, .inr (0, [.int 0, .int 0, .int 0, .int 0, .int 0])), (q9, .inr (0, [.int 0, .int 0, .int 0, .int 0, .int 0])), (q10, .inr (0, [.int 0, .int 0, .int 0, .int 0, .int 0]))]) rfl (fun h => ?_)
  refine l_aast C 3 2 10 0 rfl rfl rfl rfl (iI_in (by decide) (by decide) (by decide)) (n := 4) (by decide) dX1_init_65 (fun h => ?_)
  refine l_ws (ws' := [(q0, .inr (1, [.ref q1, .ref q2, .ref q3, .ref q4, .ref q5, .int 0, .int 0, .int 0, .int 0, .int 0, .int 0])), (q1, .inl (yc 0, 8, .inl (fun _ => 0))), (q2, .inl (yc 0, 6, .inl (fun _ => 0))), (q3, .inl (yc 2, 6, .inr (.inr (.inr (.inr (va_up (va_up (va_up (va_up (va_up (fun _ => none) 0 (some q6)) 1 (some q7)) 2 (some q8)) 3 (some q9)) 4 (some q10))))))), (q4, .inl (yc 0, 60, .inl (fun _ => 0))), (q5, .inl (yc 0, 60, .inl (fun _ => 0))), (q6, .inr (0, [.int 0, .int 0, .int 0, .int 0, .int 0])), (q7, .inr (0, [.int 0, .int 0, .int 0, .int 0, .int 0])), (q8, .inr (0, [.int 0, .int 0, .int 0, .int 0, .int 0])), (q9, .inr (0, [.int 0, .int 0, .int 0, .int 0, .int 0])), (q10, .inr (0, [.int 0, .int 0, .int 0, .int 0, .int 0]))]) rfl (fun h => ?_)
  refine x_iinc (z' := 5) (lv' := [(1, .int (iI (5))), (0, .ref q0)]) C 0 dX1_init_66 rfl (by decide) (by decide) rfl ?_
  refine x_goto (tgt := 47) C dX1_init_69 (by decide) ?_
  refine x_iload_n C 0 dX1_init_47 rfl ?_
  refine x_bipush C dX1_init_48 (by decide) ?_
  refine x_icmp_ge (tgt := 72) C dX1_init_50 (by decide) (by decide) (by decide) (fun h9 => absurd h9 (by decide)) (fun _ => ?_)
  refine x_aload_n C 1 dX1_init_53 rfl ?_
  refine l_get C 0 rfl rfl 2 (by decide) wf20 hinX1 rfl dX1_init_54 ?_
  refine x_iload_n C 0 dX1_init_57 rfl ?_
  refine l_new (ci := 0) (fs := [.int 0, .int 0, .int 0, .int 0, .int 0]) C hA hinX0 tyX0 tyX0_ok wc18 wiX0 wzX0 rfl dfX0 (by decide) (by decide) dX1_init_58 (fun q11 h => ?_)
  refine l_ws (ws' := [(q0, .inr (1, [.ref q1, .ref q2, .ref q3, .ref q4, .ref q5, .int 0, .int 0, .int 0, .int 0, .int 0, .int 0])), (q1, .inl (yc 0, 8, .inl (fun _ => 0))), (q2, .inl (yc 0, 6, .inl (fun _ => 0))), (q3, .inl (yc 2, 6, .inr (.inr (.inr (.inr (va_up (va_up (va_up (va_up (va_up (fun _ => none) 0 (some q6)) 1 (some q7)) 2 (some q8)) 3 (some q9)) 4 (some q10))))))), (q4, .inl (yc 0, 60, .inl (fun _ => 0))), (q5, .inl (yc 0, 60, .inl (fun _ => 0))), (q6, .inr (0, [.int 0, .int 0, .int 0, .int 0, .int 0])), (q7, .inr (0, [.int 0, .int 0, .int 0, .int 0, .int 0])), (q8, .inr (0, [.int 0, .int 0, .int 0, .int 0, .int 0])), (q9, .inr (0, [.int 0, .int 0, .int 0, .int 0, .int 0])), (q10, .inr (0, [.int 0, .int 0, .int 0, .int 0, .int 0])), (q11, .inr (0, [.int 0, .int 0, .int 0, .int 0, .int 0]))]) rfl (fun h => ?_)
  refine x_dup C dX1_init_61 rfl ?_
  refine l_callIN (wr := [(q0, .inr (1, [.ref q1, .ref q2, .ref q3, .ref q4, .ref q5, .int 0, .int 0, .int 0, .int 0, .int 0, .int 0])), (q1, .inl (yc 0, 8, .inl (fun _ => 0))), (q2, .inl (yc 0, 6, .inl (fun _ => 0))), (q3, .inl (yc 2, 6, .inr (.inr (.inr (.inr (va_up (va_up (va_up (va_up (va_up (fun _ => none) 0 (some q6)) 1 (some q7)) 2 (some q8)) 3 (some q9)) 4 (some q10))))))), (q4, .inl (yc 0, 60, .inl (fun _ => 0))), (q5, .inl (yc 0, 60, .inl (fun _ => 0))), (q6, .inr (0, [.int 0, .int 0, .int 0, .int 0, .int 0])), (q7, .inr (0, [.int 0, .int 0, .int 0, .int 0, .int 0])), (q8, .inr (0, [.int 0, .int 0, .int 0, .int 0, .int 0])), (q9, .inr (0, [.int 0, .int 0, .int 0, .int 0, .int 0])), (q10, .inr (0, [.int 0, .int 0, .int 0, .int 0, .int 0]))]) (x := .inr (0, [.int 0, .int 0, .int 0, .int 0, .int 0])) (b := q11) C hA hO (As := []) (rest := [.ref q11, .int (iI (5)), .ref q3]) (fun A1 => c_X0_init l D yc t1 t2 A1 q11) ⟨va_cnB 0 C.hts gX1_init_X0_init_n30 rfl rfl rfl C.hF.2.2.2.2.2 (C.hts _ wzX0) (by decide +kernel) ⟨?_, ?_⟩, rfl, C.hts _ wimX0_init⟩ rfl rfl (Nat.le_of_ble_eq_true rfl) ⟨?_, ?_⟩ dX1_init_62 ?_
  · decide
  · decide
  · decide
  · decide
  rintro w9 rfl h
  refine l_ws (ws' := [(q0, .inr (1, [.ref q1, .ref q2, .ref q3, .ref q4, .ref q5, .int 0, .int 0, .int 0, .int 0, .int 0, .int 0])), (q1, .inl (yc 0, 8, .inl (fun _ => 0))), (q2, .inl (yc 0, 6, .inl (fun _ => 0))), (q3, .inl (yc 2, 6, .inr (.inr (.inr (.inr (va_up (va_up (va_up (va_up (va_up (fun _ => none) 0 (some q6)) 1 (some q7)) 2 (some q8)) 3 (some q9)) 4 (some q10))))))), (q4, .inl (yc 0, 60, .inl (fun _ => 0))), (q5, .inl (yc 0, 60, .inl (fun _ => 0))), (q6, .inr (0, [.int 0, .int 0, .int 0, .int 0, .int 0])), (q7, .inr (0, [.int 0, .int 0, .int 0, .int 0, .int 0])), (q8, .inr (0, [.int 0, .int 0, .int 0, .int 0, .int 0])), (q9, .inr (0, [.int 0, .int 0, .int 0, .int 0, .int 0])), (q10, .inr (0, [.int 0, .int 0, .int 0, .int 0, .int 0])), (q11, .inr (0, [.int 0, .int 0, .int 0, .int 0, .int 0]))]) rfl (fun h => ?_)
  refine l_aast C 3 2 11 0 rfl rfl rfl rfl (iI_in (by decide) (by decide) (by decide)) (n := 5) (by decide) dX1_init_65 (fun h => ?_)
  refine l_ws (ws' := [(q0, .inr (1, [.ref q1, .ref q2, .ref q3, .ref q4, .ref q5, .int 0, .int 0, .int 0, .int 0, .int 0, .int 0])), (q1, .inl (yc 0, 8, .inl (fun _ => 0))), (q2, .inl (yc 0, 6, .inl (fun _ => 0))), (q3, .inl (yc 2, 6, .inr (.inr (.inr (.inr (va_up (va_up (va_up (va_up (va_up (va_up (fun _ => none) 0 (some q6)) 1 (some q7)) 2 (some q8)) 3 (some q9)) 4 (some q10)) 5 (some q11))))))), (q4, .inl (yc 0, 60, .inl (fun _ => 0))), (q5, .inl (yc 0, 60, .inl (fun _ => 0))), (q6, .inr (0, [.int 0, .int 0, .int 0, .int 0, .int 0])), (q7, .inr (0, [.int 0, .int 0, .int 0, .int 0, .int 0])), (q8, .inr (0, [.int 0, .int 0, .int 0, .int 0, .int 0])), (q9, .inr (0, [.int 0, .int 0, .int 0, .int 0, .int 0])), (q10, .inr (0, [.int 0, .int 0, .int 0, .int 0, .int 0])), (q11, .inr (0, [.int 0, .int 0, .int 0, .int 0, .int 0]))]) rfl (fun h => ?_)
  refine x_iinc (z' := 6) (lv' := [(1, .int (iI (6))), (0, .ref q0)]) C 0 dX1_init_66 rfl (by decide) (by decide) rfl ?_
  refine x_goto (tgt := 47) C dX1_init_69 (by decide) ?_
  refine x_iload_n C 0 dX1_init_47 rfl ?_
  refine x_bipush C dX1_init_48 (by decide) ?_
  refine x_icmp_ge (tgt := 72) C dX1_init_50 (by decide) (by decide) (by decide) (fun _ => ?_) (fun h9 => absurd h9 (by decide))
  exact l_ret C rfl dX1_init_72 ⟨q1, q2, q3, q4, q5, q6, q7, q8, q9, q10, q11, rfl⟩

set_option maxRecDepth 100000 in
set_option maxHeartbeats 40000000 in
theorem c_X2_init (l : Launch) (D : va_G) (yc : Nat → ClassId) (t1 t2 : Nat) (A : Nat → Prop) (q0 : Nat) : CL l yX2_init wsX2_init { frames := 3, cells := 12, slots := 181, locals := 53 } D yc t1 t2 A [.ref q0] [(q0, .inr (2, [.null, .int 0]))] (fun w => ∃ q1 q2 q3 q4 q5 q6 q7 q8 q9 q10 q11 q12 : Nat, w = [(q0, .inr (2, [.ref q1, .int 0])), (q1, .inr (1, [.ref q2, .ref q3, .ref q4, .ref q5, .ref q6, .int 0, .int 0, .int 0, .int 0, .int 0, .int 0])), (q2, .inl (yc 0, 8, .inl (fun _ => 0))), (q3, .inl (yc 0, 6, .inl (fun _ => 0))), (q4, .inl (yc 2, 6, .inr (.inr (.inr (.inr (va_up (va_up (va_up (va_up (va_up (va_up (fun _ => none) 0 (some q7)) 1 (some q8)) 2 (some q9)) 3 (some q10)) 4 (some q11)) 5 (some q12))))))), (q5, .inl (yc 0, 60, .inl (fun _ => 0))), (q6, .inl (yc 0, 60, .inl (fun _ => 0))), (q7, .inr (0, [.int 0, .int 0, .int 0, .int 0, .int 0])), (q8, .inr (0, [.int 0, .int 0, .int 0, .int 0, .int 0])), (q9, .inr (0, [.int 0, .int 0, .int 0, .int 0, .int 0])), (q10, .inr (0, [.int 0, .int 0, .int 0, .int 0, .int 0])), (q11, .inr (0, [.int 0, .int 0, .int 0, .int 0, .int 0])), (q12, .inr (0, [.int 0, .int 0, .int 0, .int 0, .int 0]))]) 12 181 := by
  refine start_L (cc := cX2_init) (nL := 1) (own := RX2) (by decide +kernel) rfl rfl rfl (Nat.le_of_ble_eq_true rfl) ?_
  intro p e s m9 below meth c9 h C hA hO hN
  have wl3 : Cond.methodLink RX2 3 objectInit ∈ wsX2_init := by decide +kernel
  have wio : Cond.instanceMethod objectInit ∈ wsX2_init := by decide +kernel
  have wco : Cond.code objectInit ⟨#[0xb1]⟩ 1 none ∈ wsX2_init := by decide +kernel
  have wc9 : Cond.classLink RX2 9 RX1 ∈ wsX2_init := by decide +kernel
  have wiX1 : Cond.instantiable RX1 11 ∈ wsX2_init := by decide +kernel
  have wzX1 : Cond.initialized RX1 ∈ wsX2_init := by decide +kernel
  have hinX1 : ∀ w ∈ u_ws RX1 TX1 11, w ∈ wsX2_init := by decide +kernel
  have wimX1_init : Cond.instanceMethod yX1_init ∈ wsX2_init := by decide +kernel
  have wl11 : Cond.methodLink RX2 11 yX1_init ∈ wsX2_init := by decide +kernel
  have wf12 : Cond.fieldLink RX2 12 (TX2 0).1 (TX2 0).2.1 (TX2 0).2.2.1 ∈ wsX2_init := by decide +kernel
  have hinX2 : ∀ w ∈ u_ws RX2 TX2 2, w ∈ wsX2_init := by decide +kernel
  refine x_lv (lv' := [(0, .ref q0)]) rfl ?_
  refine x_aload_n C 0 dX2_init_0 rfl ?_
  refine l_oi C wl3 wio wco (by decide) (Nat.le_of_ble_eq_true rfl) dX2_init_1 ?_
  refine x_aload_n C 0 dX2_init_4 rfl ?_
  refine l_new (ci := 1) (fs := [.null, .null, .null, .null, .null, .int 0, .int 0, .int 0, .int 0, .int 0, .int 0]) C hA hinX1 tyX1 tyX1_ok wc9 wiX1 wzX1 rfl dfX1 (by decide) (by decide) dX2_init_5 (fun q1 h => ?_)
  refine l_ws (ws' := [(q0, .inr (2, [.null, .int 0])), (q1, .inr (1, [.null, .null, .null, .null, .null, .int 0, .int 0, .int 0, .int 0, .int 0, .int 0]))]) rfl (fun h => ?_)
  refine x_dup C dX2_init_8 rfl ?_
  refine l_callI (wr := [(q0, .inr (2, [.null, .int 0]))]) (x := .inr (1, [.null, .null, .null, .null, .null, .int 0, .int 0, .int 0, .int 0, .int 0, .int 0])) (b := q1) C hA hO (As := []) (rest := [.ref q1, .ref q0]) (fun A1 => c_X1_init l D yc t1 t2 A1 q1) (cwI 0 C.hts gX2_init_X1_init rfl rfl rfl (C.hts _ wzX1) (C.hts _ wl11) (C.hts _ wimX1_init) rfl (by decide +kernel) ⟨?_, ?_⟩) rfl rfl (Nat.le_of_ble_eq_true rfl) ⟨?_, ?_⟩ dX2_init_9 ?_
  · decide
  · decide
  · decide
  · decide
  rintro w9 ⟨q2, q3, q4, q5, q6, q7, q8, q9, q10, q11, q12, rfl⟩ h
  refine l_ws (ws' := [(q0, .inr (2, [.null, .int 0])), (q1, .inr (1, [.ref q2, .ref q3, .ref q4, .ref q5, .ref q6, .int 0, .int 0, .int 0, .int 0, .int 0, .int 0])), (q2, .inl (yc 0, 8, .inl (fun _ => 0))), (q3, .inl (yc 0, 6, .inl (fun _ => 0))), (q4, .inl (yc 2, 6, .inr (.inr (.inr (.inr (va_up (va_up (va_up (va_up (va_up (va_up (fun _ => none) 0 (some q7)) 1 (some q8)) 2 (some q9)) 3 (some q10)) 4 (some q11)) 5 (some q12))))))), (q5, .inl (yc 0, 60, .inl (fun _ => 0))), (q6, .inl (yc 0, 60, .inl (fun _ => 0))), (q7, .inr (0, [.int 0, .int 0, .int 0, .int 0, .int 0])), (q8, .inr (0, [.int 0, .int 0, .int 0, .int 0, .int 0])), (q9, .inr (0, [.int 0, .int 0, .int 0, .int 0, .int 0])), (q10, .inr (0, [.int 0, .int 0, .int 0, .int 0, .int 0])), (q11, .inr (0, [.int 0, .int 0, .int 0, .int 0, .int 0])), (q12, .inr (0, [.int 0, .int 0, .int 0, .int 0, .int 0]))]) rfl (fun h => ?_)
  refine l_putF C 0 rfl rfl 0 (by decide) wf12 hinX2 tyX2 tyX2_ok nmX2 rfl hN rfl (tyX2_ok 0 (by decide)) rfl rfl (Nat.le_of_ble_eq_true rfl) dX2_init_12 (fun h => ?_)
  refine l_ws (ws' := [(q0, .inr (2, [.ref q1, .int 0])), (q1, .inr (1, [.ref q2, .ref q3, .ref q4, .ref q5, .ref q6, .int 0, .int 0, .int 0, .int 0, .int 0, .int 0])), (q2, .inl (yc 0, 8, .inl (fun _ => 0))), (q3, .inl (yc 0, 6, .inl (fun _ => 0))), (q4, .inl (yc 2, 6, .inr (.inr (.inr (.inr (va_up (va_up (va_up (va_up (va_up (va_up (fun _ => none) 0 (some q7)) 1 (some q8)) 2 (some q9)) 3 (some q10)) 4 (some q11)) 5 (some q12))))))), (q5, .inl (yc 0, 60, .inl (fun _ => 0))), (q6, .inl (yc 0, 60, .inl (fun _ => 0))), (q7, .inr (0, [.int 0, .int 0, .int 0, .int 0, .int 0])), (q8, .inr (0, [.int 0, .int 0, .int 0, .int 0, .int 0])), (q9, .inr (0, [.int 0, .int 0, .int 0, .int 0, .int 0])), (q10, .inr (0, [.int 0, .int 0, .int 0, .int 0, .int 0])), (q11, .inr (0, [.int 0, .int 0, .int 0, .int 0, .int 0])), (q12, .inr (0, [.int 0, .int 0, .int 0, .int 0, .int 0]))]) rfl (fun h => ?_)
  exact l_ret C rfl dX2_init_15 ⟨q1, q2, q3, q4, q5, q6, q7, q8, q9, q10, q11, q12, rfl⟩
