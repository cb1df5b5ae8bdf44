/-! The reference's constructor. -/
set_option maxRecDepth 100000 in
set_option maxHeartbeats 40000000 in
theorem c_X5_init (l : Launch) (D : va_G) (yc : Nat → ClassId) (t1 t2 : Nat) (A : Nat → Prop) (q0 : Nat) : CL l yX5_init wsX5_init { frames := 1, cells := 11, slots := 1032, locals := 12 } D yc t1 t2 A [.ref q0] [(q0, .inr (5, [.null, .null, .null, .null, .null, .null, .null, .null, .null, .null, .int 0, .int 0, .long 0, .long 0, .null, .int 0, .int 0]))] (fun w => ∃ q1 q2 q3 q4 q5 q6 q7 q8 q9 q10 q11 : Nat, w = [(q0, .inr (5, [.ref q1, .ref q2, .ref q3, .ref q4, .ref q5, .ref q6, .ref q7, .ref q8, .ref q9, .ref q10, .int 0, .int 0, .long 0, .long (lI (1)), .ref q11, .int 0, .int 0])), (q1, .inl (yc 0, 6, .inl (upd (upd (upd (upd (upd (upd (fun _ => 0) 0 (iI (-1))) 1 (iI (-1))) 2 (iI (-1))) 3 (iI (-1))) 4 (iI (-1))) 5 (iI (-1))))), (q2, .inl (yc 0, 240, .inl (fun _ => 0))), (q3, .inl (yc 0, 40, .inl (fun _ => 0))), (q4, .inl (yc 0, 4, .inl (upd (upd (upd (upd (fun _ => 0) 0 (iI (-1))) 1 (iI (-1))) 2 (iI (-1))) 3 (iI (-1))))), (q5, .inl (yc 0, 240, .inl (fun _ => 0))), (q6, .inl (yc 0, 98, .inl (fun _ => 0))), (q7, .inl (yc 0, 98, .inl (fun _ => 0))), (q8, .inl (yc 0, 294, .inl (fun _ => 0))), (q9, .inl (yc 1, 3, .inl (fun _ => 0))), (q10, .inl (yc 0, 6, .inl (fun _ => 0))), (q11, .inl (yc 0, 3, .inl (fun _ => 0)))]) 11 1032 := by
  refine start_L (cc := cX5_init) (nL := 2) (own := RX5) (by decide +kernel) rfl rfl rfl (Nat.le_of_ble_eq_true rfl) ?_
  intro p e s m9 below meth c9 h C hA hO hN
  have wl1 : Cond.methodLink RX5 1 objectInit ∈ wsX5_init := by decide +kernel
  have wio : Cond.instanceMethod objectInit ∈ wsX5_init := by decide +kernel
  have wco : Cond.code objectInit ⟨#[0xb1]⟩ 1 none ∈ wsX5_init := by decide +kernel
  have waint : Cond.arrayClass .int ∈ wsX5_init := by decide +kernel
  have wf7 : Cond.fieldLink RX5 7 (TX5 0).1 (TX5 0).2.1 (TX5 0).2.2.1 ∈ wsX5_init := by decide +kernel
  have hinX5 : ∀ w ∈ u_ws RX5 TX5 17, w ∈ wsX5_init := by decide +kernel
  have wf13 : Cond.fieldLink RX5 13 (TX5 1).1 (TX5 1).2.1 (TX5 1).2.2.1 ∈ wsX5_init := by decide +kernel
  have wf16 : Cond.fieldLink RX5 16 (TX5 2).1 (TX5 2).2.1 (TX5 2).2.2.1 ∈ wsX5_init := by decide +kernel
  have wf19 : Cond.fieldLink RX5 19 (TX5 3).1 (TX5 3).2.1 (TX5 3).2.2.1 ∈ wsX5_init := by decide +kernel
  have wf22 : Cond.fieldLink RX5 22 (TX5 4).1 (TX5 4).2.1 (TX5 4).2.2.1 ∈ wsX5_init := by decide +kernel
  have wf25 : Cond.fieldLink RX5 25 (TX5 5).1 (TX5 5).2.1 (TX5 5).2.2.1 ∈ wsX5_init := by decide +kernel
  have wf28 : Cond.fieldLink RX5 28 (TX5 6).1 (TX5 6).2.1 (TX5 6).2.2.1 ∈ wsX5_init := by decide +kernel
  have wf31 : Cond.fieldLink RX5 31 (TX5 7).1 (TX5 7).2.1 (TX5 7).2.2.1 ∈ wsX5_init := by decide +kernel
  have waboolean : Cond.arrayClass .boolean ∈ wsX5_init := by decide +kernel
  have wf34 : Cond.fieldLink RX5 34 (TX5 8).1 (TX5 8).2.1 (TX5 8).2.2.1 ∈ wsX5_init := by decide +kernel
  have wf38 : Cond.fieldLink RX5 38 (TX5 9).1 (TX5 9).2.1 (TX5 9).2.2.1 ∈ wsX5_init := by decide +kernel
  have wf41 : Cond.fieldLink RX5 41 (TX5 14).1 (TX5 14).2.1 (TX5 14).2.2.1 ∈ wsX5_init := by decide +kernel
  have wf44 : Cond.fieldLink RX5 44 (TX5 13).1 (TX5 13).2.1 (TX5 13).2.2.1 ∈ wsX5_init := by decide +kernel
  refine x_lv (lv' := [(0, .ref q0)]) rfl ?_
  refine x_aload_n C 0 dX5_init_0 rfl ?_
  refine l_oi C wl1 wio wco (by decide) (Nat.le_of_ble_eq_true rfl) dX5_init_1 ?_
  refine x_aload_n C 0 dX5_init_4 rfl ?_
  refine x_bipush C dX5_init_5 (by decide) ?_
  refine l_newi C hA waint (by decide) (N := 6) (by decide) (by decide) (by decide) (by decide) dX5_init_7 (fun q1 h => ?_)
  refine l_ws (ws' := [(q0, .inr (5, [.null, .null, .null, .null, .null, .null, .null, .null, .null, .null, .int 0, .int 0, .long 0, .long 0, .null, .int 0, .int 0])), (q1, .inl (yc 0, 6, .inl (fun _ => 0)))]) rfl (fun h => ?_)
  refine l_putF C 0 rfl rfl 0 (by decide) wf7 hinX5 tyX5 tyX5_ok nmX5 rfl hN rfl (tyX5_ok 0 (by decide)) rfl rfl (Nat.le_of_ble_eq_true rfl) dX5_init_9 (fun h => ?_)
  refine l_ws (ws' := [(q0, .inr (5, [.ref q1, .null, .null, .null, .null, .null, .null, .null, .null, .null, .int 0, .int 0, .long 0, .long 0, .null, .int 0, .int 0])), (q1, .inl (yc 0, 6, .inl (fun _ => 0)))]) rfl (fun h => ?_)
  refine x_aload_n C 0 dX5_init_12 rfl ?_
  refine x_sipush C dX5_init_13 (by decide) ?_
  refine l_newi C hA waint (by decide) (N := 240) (by decide) (by decide) (by decide) (by decide) dX5_init_16 (fun q2 h => ?_)
  refine l_ws (ws' := [(q0, .inr (5, [.ref q1, .null, .null, .null, .null, .null, .null, .null, .null, .null, .int 0, .int 0, .long 0, .long 0, .null, .int 0, .int 0])), (q1, .inl (yc 0, 6, .inl (fun _ => 0))), (q2, .inl (yc 0, 240, .inl (fun _ => 0)))]) rfl (fun h => ?_)
  refine l_putF C 0 rfl rfl 1 (by decide) wf13 hinX5 tyX5 tyX5_ok nmX5 rfl hN rfl (tyX5_ok 1 (by decide)) rfl rfl (Nat.le_of_ble_eq_true rfl) dX5_init_18 (fun h => ?_)
  refine l_ws (ws' := [(q0, .inr (5, [.ref q1, .ref q2, .null, .null, .null, .null, .null, .null, .null, .null, .int 0, .int 0, .long 0, .long 0, .null, .int 0, .int 0])), (q1, .inl (yc 0, 6, .inl (fun _ => 0))), (q2, .inl (yc 0, 240, .inl (fun _ => 0)))]) rfl (fun h => ?_)
  refine x_aload_n C 0 dX5_init_21 rfl ?_
  refine x_bipush C dX5_init_22 (by decide) ?_
  refine l_newi C hA waint (by decide) (N := 40) (by decide) (by decide) (by decide) (by decide) dX5_init_24 (fun q3 h => ?_)
  refine l_ws (ws' := [(q0, .inr (5, [.ref q1, .ref q2, .null, .null, .null, .null, .null, .null, .null, .null, .int 0, .int 0, .long 0, .long 0, .null, .int 0, .int 0])), (q1, .inl (yc 0, 6, .inl (fun _ => 0))), (q2, .inl (yc 0, 240, .inl (fun _ => 0))), (q3, .inl (yc 0, 40, .inl (fun _ => 0)))]) rfl (fun h => ?_)
  refine l_putF C 0 rfl rfl 2 (by decide) wf16 hinX5 tyX5 tyX5_ok nmX5 rfl hN rfl (tyX5_ok 2 (by decide)) rfl rfl (Nat.le_of_ble_eq_true rfl) dX5_init_26 (fun h => ?_)
  refine l_ws (ws' := [(q0, .inr (5, [.ref q1, .ref q2, .ref q3, .null, .null, .null, .null, .null, .null, .null, .int 0, .int 0, .long 0, .long 0, .null, .int 0, .int 0])), (q1, .inl (yc 0, 6, .inl (fun _ => 0))), (q2, .inl (yc 0, 240, .inl (fun _ => 0))), (q3, .inl (yc 0, 40, .inl (fun _ => 0)))]) rfl (fun h => ?_)
  refine x_aload_n C 0 dX5_init_29 rfl ?_
  refine x_iconst C dX5_init_30 ?_
  refine l_newi C hA waint (by decide) (N := 4) (by decide) (by decide) (by decide) (by decide) dX5_init_31 (fun q4 h => ?_)
  refine l_ws (ws' := [(q0, .inr (5, [.ref q1, .ref q2, .ref q3, .null, .null, .null, .null, .null, .null, .null, .int 0, .int 0, .long 0, .long 0, .null, .int 0, .int 0])), (q1, .inl (yc 0, 6, .inl (fun _ => 0))), (q2, .inl (yc 0, 240, .inl (fun _ => 0))), (q3, .inl (yc 0, 40, .inl (fun _ => 0))), (q4, .inl (yc 0, 4, .inl (fun _ => 0)))]) rfl (fun h => ?_)
  refine l_putF C 0 rfl rfl 3 (by decide) wf19 hinX5 tyX5 tyX5_ok nmX5 rfl hN rfl (tyX5_ok 3 (by decide)) rfl rfl (Nat.le_of_ble_eq_true rfl) dX5_init_33 (fun h => ?_)
  refine l_ws (ws' := [(q0, .inr (5, [.ref q1, .ref q2, .ref q3, .ref q4, .null, .null, .null, .null, .null, .null, .int 0, .int 0, .long 0, .long 0, .null, .int 0, .int 0])), (q1, .inl (yc 0, 6, .inl (fun _ => 0))), (q2, .inl (yc 0, 240, .inl (fun _ => 0))), (q3, .inl (yc 0, 40, .inl (fun _ => 0))), (q4, .inl (yc 0, 4, .inl (fun _ => 0)))]) rfl (fun h => ?_)
  refine x_aload_n C 0 dX5_init_36 rfl ?_
  refine x_sipush C dX5_init_37 (by decide) ?_
  refine l_newi C hA waint (by decide) (N := 240) (by decide) (by decide) (by decide) (by decide) dX5_init_40 (fun q5 h => ?_)
  refine l_ws (ws' := [(q0, .inr (5, [.ref q1, .ref q2, .ref q3, .ref q4, .null, .null, .null, .null, .null, .null, .int 0, .int 0, .long 0, .long 0, .null, .int 0, .int 0])), (q1, .inl (yc 0, 6, .inl (fun _ => 0))), (q2, .inl (yc 0, 240, .inl (fun _ => 0))), (q3, .inl (yc 0, 40, .inl (fun _ => 0))), (q4, .inl (yc 0, 4, .inl (fun _ => 0))), (q5, .inl (yc 0, 240, .inl (fun _ => 0)))]) rfl (fun h => ?_)
  refine l_putF C 0 rfl rfl 4 (by decide) wf22 hinX5 tyX5 tyX5_ok nmX5 rfl hN rfl (tyX5_ok 4 (by decide)) rfl rfl (Nat.le_of_ble_eq_true rfl) dX5_init_42 (fun h => ?_)
  refine l_ws (ws' := [(q0, .inr (5, [.ref q1, .ref q2, .ref q3, .ref q4, .ref q5, .null, .null, .null, .null, .null, .int 0, .int 0, .long 0, .long 0, .null, .int 0, .int 0])), (q1, .inl (yc 0, 6, .inl (fun _ => 0))), (q2, .inl (yc 0, 240, .inl (fun _ => 0))), (q3, .inl (yc 0, 40, .inl (fun _ => 0))), (q4, .inl (yc 0, 4, .inl (fun _ => 0))), (q5, .inl (yc 0, 240, .inl (fun _ => 0)))]) rfl (fun h => ?_)
  refine x_aload_n C 0 dX5_init_45 rfl ?_
  refine x_bipush C dX5_init_46 (by decide) ?_
  refine l_newi C hA waint (by decide) (N := 98) (by decide) (by decide) (by decide) (by decide) dX5_init_48 (fun q6 h => ?_)
  refine l_ws (ws' := [(q0, .inr (5, [.ref q1, .ref q2, .ref q3, .ref q4, .ref q5, .null, .null, .null, .null, .null, .int 0, .int 0, .long 0, .long 0, .null, .int 0, .int 0])), (q1, .inl (yc 0, 6, .inl (fun _ => 0))), (q2, .inl (yc 0, 240, .inl (fun _ => 0))), (q3, .inl (yc 0, 40, .inl (fun _ => 0))), (q4, .inl (yc 0, 4, .inl (fun _ => 0))), (q5, .inl (yc 0, 240, .inl (fun _ => 0))), (q6, .inl (yc 0, 98, .inl (fun _ => 0)))]) rfl (fun h => ?_)
  refine l_putF C 0 rfl rfl 5 (by decide) wf25 hinX5 tyX5 tyX5_ok nmX5 rfl hN rfl (tyX5_ok 5 (by decide)) rfl rfl (Nat.le_of_ble_eq_true rfl) dX5_init_50 (fun h => ?_)
  refine l_ws (ws' := [(q0, .inr (5, [.ref q1, .ref q2, .ref q3, .ref q4, .ref q5, .ref q6, .null, .null, .null, .null, .int 0, .int 0, .long 0, .long 0, .null, .int 0, .int 0])), (q1, .inl (yc 0, 6, .inl (fun _ => 0))), (q2, .inl (yc 0, 240, .inl (fun _ => 0))), (q3, .inl (yc 0, 40, .inl (fun _ => 0))), (q4, .inl (yc 0, 4, .inl (fun _ => 0))), (q5, .inl (yc 0, 240, .inl (fun _ => 0))), (q6, .inl (yc 0, 98, .inl (fun _ => 0)))]) rfl (fun h => ?_)
  refine x_aload_n C 0 dX5_init_53 rfl ?_
  refine x_bipush C dX5_init_54 (by decide) ?_
  refine l_newi C hA waint (by decide) (N := 98) (by decide) (by decide) (by decide) (by decide) dX5_init_56 (fun q7 h => ?_)
  refine l_ws (ws' := [(q0, .inr (5, [.ref q1, .ref q2, .ref q3, .ref q4, .ref q5, .ref q6, .null, .null, .null, .null, .int 0, .int 0, .long 0, .long 0, .null, .int 0, .int 0])), (q1, .inl (yc 0, 6, .inl (fun _ => 0))), (q2, .inl (yc 0, 240, .inl (fun _ => 0))), (q3, .inl (yc 0, 40, .inl (fun _ => 0))), (q4, .inl (yc 0, 4, .inl (fun _ => 0))), (q5, .inl (yc 0, 240, .inl (fun _ => 0))), (q6, .inl (yc 0, 98, .inl (fun _ => 0))), (q7, .inl (yc 0, 98, .inl (fun _ => 0)))]) rfl (fun h => ?_)
  refine l_putF C 0 rfl rfl 6 (by decide) wf28 hinX5 tyX5 tyX5_ok nmX5 rfl hN rfl (tyX5_ok 6 (by decide)) rfl rfl (Nat.le_of_ble_eq_true rfl) dX5_init_58 (fun h => ?_)
  refine l_ws (ws' := [(q0, .inr (5, [.ref q1, .ref q2, .ref q3, .ref q4, .ref q5, .ref q6, .ref q7, .null, .null, .null, .int 0, .int 0, .long 0, .long 0, .null, .int 0, .int 0])), (q1, .inl (yc 0, 6, .inl (fun _ => 0))), (q2, .inl (yc 0, 240, .inl (fun _ => 0))), (q3, .inl (yc 0, 40, .inl (fun _ => 0))), (q4, .inl (yc 0, 4, .inl (fun _ => 0))), (q5, .inl (yc 0, 240, .inl (fun _ => 0))), (q6, .inl (yc 0, 98, .inl (fun _ => 0))), (q7, .inl (yc 0, 98, .inl (fun _ => 0)))]) rfl (fun h => ?_)
  refine x_aload_n C 0 dX5_init_61 rfl ?_
  refine x_sipush C dX5_init_62 (by decide) ?_
  refine l_newi C hA waint (by decide) (N := 294) (by decide) (by decide) (by decide) (by decide) dX5_init_65 (fun q8 h => ?_)
  refine l_ws (ws' := [(q0, .inr (5, [.ref q1, .ref q2, .ref q3, .ref q4, .ref q5, .ref q6, .ref q7, .null, .null, .null, .int 0, .int 0, .long 0, .long 0, .null, .int 0, .int 0])), (q1, .inl (yc 0, 6, .inl (fun _ => 0))), (q2, .inl (yc 0, 240, .inl (fun _ => 0))), (q3, .inl (yc 0, 40, .inl (fun _ => 0))), (q4, .inl (yc 0, 4, .inl (fun _ => 0))), (q5, .inl (yc 0, 240, .inl (fun _ => 0))), (q6, .inl (yc 0, 98, .inl (fun _ => 0))), (q7, .inl (yc 0, 98, .inl (fun _ => 0))), (q8, .inl (yc 0, 294, .inl (fun _ => 0)))]) rfl (fun h => ?_)
  refine l_putF C 0 rfl rfl 7 (by decide) wf31 hinX5 tyX5 tyX5_ok nmX5 rfl hN rfl (tyX5_ok 7 (by decide)) rfl rfl (Nat.le_of_ble_eq_true rfl) dX5_init_67 (fun h => ?_)
  refine l_ws (ws' := [(q0, .inr (5, [.ref q1, .ref q2, .ref q3, .ref q4, .ref q5, .ref q6, .ref q7, .ref q8, .null, .null, .int 0, .int 0, .long 0, .long 0, .null, .int 0, .int 0])), (q1, .inl (yc 0, 6, .inl (fun _ => 0))), (q2, .inl (yc 0, 240, .inl (fun _ => 0))), (q3, .inl (yc 0, 40, .inl (fun _ => 0))), (q4, .inl (yc 0, 4, .inl (fun _ => 0))), (q5, .inl (yc 0, 240, .inl (fun _ => 0))), (q6, .inl (yc 0, 98, .inl (fun _ => 0))), (q7, .inl (yc 0, 98, .inl (fun _ => 0))), (q8, .inl (yc 0, 294, .inl (fun _ => 0)))]) rfl (fun h => ?_)
  refine x_aload_n C 0 dX5_init_70 rfl ?_
  refine x_iconst C dX5_init_71 ?_
  refine l_newz C hA waboolean (by decide) (N := 3) (by decide) (by decide) (by decide) (by decide) dX5_init_72 (fun q9 h => ?_)
  refine l_ws (ws' := [(q0, .inr (5, [.ref q1, .ref q2, .ref q3, .ref q4, .ref q5, .ref q6, .ref q7, .ref q8, .null, .null, .int 0, .int 0, .long 0, .long 0, .null, .int 0, .int 0])), (q1, .inl (yc 0, 6, .inl (fun _ => 0))), (q2, .inl (yc 0, 240, .inl (fun _ => 0))), (q3, .inl (yc 0, 40, .inl (fun _ => 0))), (q4, .inl (yc 0, 4, .inl (fun _ => 0))), (q5, .inl (yc 0, 240, .inl (fun _ => 0))), (q6, .inl (yc 0, 98, .inl (fun _ => 0))), (q7, .inl (yc 0, 98, .inl (fun _ => 0))), (q8, .inl (yc 0, 294, .inl (fun _ => 0))), (q9, .inl (yc 1, 3, .inl (fun _ => 0)))]) rfl (fun h => ?_)
  refine l_putF C 0 rfl rfl 8 (by decide) wf34 hinX5 tyX5 tyX5_ok nmX5 rfl hN rfl (tyX5_ok 8 (by decide)) rfl rfl (Nat.le_of_ble_eq_true rfl) dX5_init_74 (fun h => ?_)
  refine l_ws (ws' := [(q0, .inr (5, [.ref q1, .ref q2, .ref q3, .ref q4, .ref q5, .ref q6, .ref q7, .ref q8, .ref q9, .null, .int 0, .int 0, .long 0, .long 0, .null, .int 0, .int 0])), (q1, .inl (yc 0, 6, .inl (fun _ => 0))), (q2, .inl (yc 0, 240, .inl (fun _ => 0))), (q3, .inl (yc 0, 40, .inl (fun _ => 0))), (q4, .inl (yc 0, 4, .inl (fun _ => 0))), (q5, .inl (yc 0, 240, .inl (fun _ => 0))), (q6, .inl (yc 0, 98, .inl (fun _ => 0))), (q7, .inl (yc 0, 98, .inl (fun _ => 0))), (q8, .inl (yc 0, 294, .inl (fun _ => 0))), (q9, .inl (yc 1, 3, .inl (fun _ => 0)))]) rfl (fun h => ?_)
  refine x_aload_n C 0 dX5_init_77 rfl ?_
  refine x_bipush C dX5_init_78 (by decide) ?_
  refine l_newi C hA waint (by decide) (N := 6) (by decide) (by decide) (by decide) (by decide) dX5_init_80 (fun q10 h => ?_)
  refine l_ws (ws' := [(q0, .inr (5, [.ref q1, .ref q2, .ref q3, .ref q4, .ref q5, .ref q6, .ref q7, .ref q8, .ref q9, .null, .int 0, .int 0, .long 0, .long 0, .null, .int 0, .int 0])), (q1, .inl (yc 0, 6, .inl (fun _ => 0))), (q2, .inl (yc 0, 240, .inl (fun _ => 0))), (q3, .inl (yc 0, 40, .inl (fun _ => 0))), (q4, .inl (yc 0, 4, .inl (fun _ => 0))), (q5, .inl (yc 0, 240, .inl (fun _ => 0))), (q6, .inl (yc 0, 98, .inl (fun _ => 0))), (q7, .inl (yc 0, 98, .inl (fun _ => 0))), (q8, .inl (yc 0, 294, .inl (fun _ => 0))), (q9, .inl (yc 1, 3, .inl (fun _ => 0))), (q10, .inl (yc 0, 6, .inl (fun _ => 0)))]) rfl (fun h => ?_)
  refine l_putF C 0 rfl rfl 9 (by decide) wf38 hinX5 tyX5 tyX5_ok nmX5 rfl hN rfl (tyX5_ok 9 (by decide)) rfl rfl (Nat.le_of_ble_eq_true rfl) dX5_init_82 (fun h => ?_)
  refine l_ws (ws' := [(q0, .inr (5, [.ref q1, .ref q2, .ref q3, .ref q4, .ref q5, .ref q6, .ref q7, .ref q8, .ref q9, .ref q10, .int 0, .int 0, .long 0, .long 0, .null, .int 0, .int 0])), (q1, .inl (yc 0, 6, .inl (fun _ => 0))), (q2, .inl (yc 0, 240, .inl (fun _ => 0))), (q3, .inl (yc 0, 40, .inl (fun _ => 0))), (q4, .inl (yc 0, 4, .inl (fun _ => 0))), (q5, .inl (yc 0, 240, .inl (fun _ => 0))), (q6, .inl (yc 0, 98, .inl (fun _ => 0))), (q7, .inl (yc 0, 98, .inl (fun _ => 0))), (q8, .inl (yc 0, 294, .inl (fun _ => 0))), (q9, .inl (yc 1, 3, .inl (fun _ => 0))), (q10, .inl (yc 0, 6, .inl (fun _ => 0)))]) rfl (fun h => ?_)
  refine x_aload_n C 0 dX5_init_85 rfl ?_
  refine x_iconst C dX5_init_86 ?_
  refine l_newi C hA waint (by decide) (N := 3) (by decide) (by decide) (by decide) (by decide) dX5_init_87 (fun q11 h => ?_)
  refine l_ws (ws' := [(q0, .inr (5, [.ref q1, .ref q2, .ref q3, .ref q4, .ref q5, .ref q6, .ref q7, .ref q8, .ref q9, .ref q10, .int 0, .int 0, .long 0, .long 0, .null, .int 0, .int 0])), (q1, .inl (yc 0, 6, .inl (fun _ => 0))), (q2, .inl (yc 0, 240, .inl (fun _ => 0))), (q3, .inl (yc 0, 40, .inl (fun _ => 0))), (q4, .inl (yc 0, 4, .inl (fun _ => 0))), (q5, .inl (yc 0, 240, .inl (fun _ => 0))), (q6, .inl (yc 0, 98, .inl (fun _ => 0))), (q7, .inl (yc 0, 98, .inl (fun _ => 0))), (q8, .inl (yc 0, 294, .inl (fun _ => 0))), (q9, .inl (yc 1, 3, .inl (fun _ => 0))), (q10, .inl (yc 0, 6, .inl (fun _ => 0))), (q11, .inl (yc 0, 3, .inl (fun _ => 0)))]) rfl (fun h => ?_)
  refine l_putF C 0 rfl rfl 14 (by decide) wf41 hinX5 tyX5 tyX5_ok nmX5 rfl hN rfl (tyX5_ok 14 (by decide)) rfl rfl (Nat.le_of_ble_eq_true rfl) dX5_init_89 (fun h => ?_)
  refine l_ws (ws' := [(q0, .inr (5, [.ref q1, .ref q2, .ref q3, .ref q4, .ref q5, .ref q6, .ref q7, .ref q8, .ref q9, .ref q10, .int 0, .int 0, .long 0, .long 0, .ref q11, .int 0, .int 0])), (q1, .inl (yc 0, 6, .inl (fun _ => 0))), (q2, .inl (yc 0, 240, .inl (fun _ => 0))), (q3, .inl (yc 0, 40, .inl (fun _ => 0))), (q4, .inl (yc 0, 4, .inl (fun _ => 0))), (q5, .inl (yc 0, 240, .inl (fun _ => 0))), (q6, .inl (yc 0, 98, .inl (fun _ => 0))), (q7, .inl (yc 0, 98, .inl (fun _ => 0))), (q8, .inl (yc 0, 294, .inl (fun _ => 0))), (q9, .inl (yc 1, 3, .inl (fun _ => 0))), (q10, .inl (yc 0, 6, .inl (fun _ => 0))), (q11, .inl (yc 0, 3, .inl (fun _ => 0)))]) rfl (fun h => ?_)
  refine x_iconst C dX5_init_92 ?_
  refine x_istore_n (lv' := [(1, .int (iI (0))), (0, .ref q0)]) C dX5_init_93 (by decide) rfl ?_
  refine x_iload_n C 0 dX5_init_94 rfl ?_
  refine x_bipush C dX5_init_95 (by decide) ?_
  refine x_icmp_ge (tgt := 113) C dX5_init_97 (by decide) (by decide) (by decide) (fun h9 => absurd h9 (by decide)) (fun _ => ?_)
  refine x_aload_n C 1 dX5_init_100 rfl ?_
  refine l_get C 0 rfl rfl 0 (by decide) wf7 hinX5 rfl dX5_init_101 ?_
  refine x_iload_n C 0 dX5_init_104 rfl ?_
  refine x_iconst C dX5_init_105 ?_
  refine l_iast C 1 rfl (iI_in (by decide) (by decide) (by decide)) (n := 0) (by decide) dX5_init_106 (fun h => ?_)
  refine l_ws (ws' := [(q0, .inr (5, [.ref q1, .ref q2, .ref q3, .ref q4, .ref q5, .ref q6, .ref q7, .ref q8, .ref q9, .ref q10, .int 0, .int 0, .long 0, .long 0, .ref q11, .int 0, .int 0])), (q1, .inl (yc 0, 6, .inl (upd (fun _ => 0) 0 (iI (-1))))), (q2, .inl (yc 0, 240, .inl (fun _ => 0))), (q3, .inl (yc 0, 40, .inl (fun _ => 0))), (q4, .inl (yc 0, 4, .inl (fun _ => 0))), (q5, .inl (yc 0, 240, .inl (fun _ => 0))), (q6, .inl (yc 0, 98, .inl (fun _ => 0))), (q7, .inl (yc 0, 98, .inl (fun _ => 0))), (q8, .inl (yc 0, 294, .inl (fun _ => 0))), (q9, .inl (yc 1, 3, .inl (fun _ => 0))), (q10, .inl (yc 0, 6, .inl (fun _ => 0))), (q11, .inl (yc 0, 3, .inl (fun _ => 0)))]) rfl (fun h => ?_)
  refine x_iinc (z' := 1) (lv' := [(1, .int (iI (1))), (0, .ref q0)]) C 0 dX5_init_107 rfl (by decide) (by decide) rfl ?_
  refine x_goto (tgt := 94) C dX5_init_110 (by decide) ?_
  refine x_iload_n C 0 dX5_init_94 rfl ?_
  refine x_bipush C dX5_init_95 (by decide) ?_
  refine x_icmp_ge (tgt := 113) C dX5_init_97 (by decide) (by decide) (by decide) (fun h9 => absurd h9 (by decide)) (fun _ => ?_)
  refine x_aload_n C 1 dX5_init_100 rfl ?_
  refine l_get C 0 rfl rfl 0 (by decide) wf7 hinX5 rfl dX5_init_101 ?_
  refine x_iload_n C 0 dX5_init_104 rfl ?_
  refine x_iconst C dX5_init_105 ?_
  refine l_iast C 1 rfl (iI_in (by decide) (by decide) (by decide)) (n := 1) (by decide) dX5_init_106 (fun h => ?_)
  refine l_ws (ws' := [(q0, .inr (5, [.ref q1, .ref q2, .ref q3, .ref q4, .ref q5, .ref q6, .ref q7, .ref q8, .ref q9, .ref q10, .int 0, .int 0, .long 0, .long 0, .ref q11, .int 0, .int 0])), (q1, .inl (yc 0, 6, .inl (upd (upd (fun _ => 0) 0 (iI (-1))) 1 (iI (-1))))), (q2, .inl (yc 0, 240, .inl (fun _ => 0))), (q3, .inl (yc 0, 40, .inl (fun _ => 0))), (q4, .inl (yc 0, 4, .inl (fun _ => 0))), (q5, .inl (yc 0, 240, .inl (fun _ => 0))), (q6, .inl (yc 0, 98, .inl (fun _ => 0))), (q7, .inl (yc 0, 98, .inl (fun _ => 0))), (q8, .inl (yc 0, 294, .inl (fun _ => 0))), (q9, .inl (yc 1, 3, .inl (fun _ => 0))), (q10, .inl (yc 0, 6, .inl (fun _ => 0))), (q11, .inl (yc 0, 3, .inl (fun _ => 0)))]) rfl (fun h => ?_)
  refine x_iinc (z' := 2) (lv' := [(1, .int (iI (2))), (0, .ref q0)]) C 0 dX5_init_107 rfl (by decide) (by decide) rfl ?_
  refine x_goto (tgt := 94) C dX5_init_110 (by decide) ?_
  refine x_iload_n C 0 dX5_init_94 rfl ?_
  refine x_bipush C dX5_init_95 (by decide) ?_
  refine x_icmp_ge (tgt := 113) C dX5_init_97 (by decide) (by decide) (by decide) (fun h9 => absurd h9 (by decide)) (fun _ => ?_)
  refine x_aload_n C 1 dX5_init_100 rfl ?_
  refine l_get C 0 rfl rfl 0 (by decide) wf7 hinX5 rfl dX5_init_101 ?_
  refine x_iload_n C 0 dX5_init_104 rfl ?_
  refine x_iconst C dX5_init_105 ?_
  refine l_iast C 1 rfl (iI_in (by decide) (by decide) (by decide)) (n := 2) (by decide) dX5_init_106 (fun h => ?_)
  refine l_ws (ws' := [(q0, .inr (5, [.ref q1, .ref q2, .ref q3, .ref q4, .ref q5, .ref q6, .ref q7, .ref q8, .ref q9, .ref q10, .int 0, .int 0, .long 0, .long 0, .ref q11, .int 0, .int 0])), (q1, .inl (yc 0, 6, .inl (upd (upd (upd (fun _ => 0) 0 (iI (-1))) 1 (iI (-1))) 2 (iI (-1))))), (q2, .inl (yc 0, 240, .inl (fun _ => 0))), (q3, .inl (yc 0, 40, .inl (fun _ => 0))), (q4, .inl (yc 0, 4, .inl (fun _ => 0))), (q5, .inl (yc 0, 240, .inl (fun _ => 0))), (q6, .inl (yc 0, 98, .inl (fun _ => 0))), (q7, .inl (yc 0, 98, .inl (fun _ => 0))), (q8, .inl (yc 0, 294, .inl (fun _ => 0))), (q9, .inl (yc 1, 3, .inl (fun _ => 0))), (q10, .inl (yc 0, 6, .inl (fun _ => 0))), (q11, .inl (yc 0, 3, .inl (fun _ => 0)))]) rfl (fun h => ?_)
  refine x_iinc (z' := 3) (lv' := [(1, .int (iI (3))), (0, .ref q0)]) C 0 dX5_init_107 rfl (by decide) (by decide) rfl ?_
  refine x_goto (tgt := 94) C dX5_init_110 (by decide) ?_
  refine x_iload_n C 0 dX5_init_94 rfl ?_
  refine x_bipush C dX5_init_95 (by decide) ?_
  refine x_icmp_ge (tgt := 113) C dX5_init_97 (by decide) (by decide) (by decide) (fun h9 => absurd h9 (by decide)) (fun _ => ?_)
  refine x_aload_n C 1 dX5_init_100 rfl ?_
  refine l_get C 0 rfl rfl 0 (by decide) wf7 hinX5 rfl dX5_init_101 ?_
  refine x_iload_n C 0 dX5_init_104 rfl ?_
  refine x_iconst C dX5_init_105 ?_
  refine l_iast C 1 rfl (iI_in (by decide) (by decide) (by decide)) (n := 3) (by decide) dX5_init_106 (fun h => ?_)
  refine l_ws (ws' := [(q0, .inr (5, [.ref q1, .ref q2, .ref q3, .ref q4, .ref q5, .ref q6, .ref q7, .ref q8, .ref q9, .ref q10, .int 0, .int 0, .long 0, .long 0, .ref q11, .int 0, .int 0])), (q1, .inl (yc 0, 6, .inl (upd (upd (upd (upd (fun _ => 0) 0 (iI (-1))) 1 (iI (-1))) 2 (iI (-1))) 3 (iI (-1))))), (q2, .inl (yc 0, 240, .inl (fun _ => 0))), (q3, .inl (yc 0, 40, .inl (fun _ => 0))), (q4, .inl (yc 0, 4, .inl (fun _ => 0))), (q5, .inl (yc 0, 240, .inl (fun _ => 0))), (q6, .inl (yc 0, 98, .inl (fun _ => 0))), (q7, .inl (yc 0, 98, .inl (fun _ => 0))), (q8, .inl (yc 0, 294, .inl (fun _ => 0))), (q9, .inl (yc 1, 3, .inl (fun _ => 0))), (q10, .inl (yc 0, 6, .inl (fun _ => 0))), (q11, .inl (yc 0, 3, .inl (fun _ => 0)))]) rfl (fun h => ?_)
  refine x_iinc (z' := 4) (lv' := [(1, .int (iI (4))), (0, .ref q0)]) C 0 dX5_init_107 rfl (by decide) (by decide) rfl ?_
  refine x_goto (tgt := 94) C dX5_init_110 (by decide) ?_
  refine x_iload_n C 0 dX5_init_94 rfl ?_
  refine x_bipush C dX5_init_95 (by decide) ?_
  refine x_icmp_ge (tgt := 113) C dX5_init_97 (by decide) (by decide) (by decide) (fun h9 => absurd h9 (by decide)) (fun _ => ?_)
  refine x_aload_n C 1 dX5_init_100 rfl ?_
  refine l_get C 0 rfl rfl 0 (by decide) wf7 hinX5 rfl dX5_init_101 ?_
  refine x_iload_n C 0 dX5_init_104 rfl ?_
  refine x_iconst C dX5_init_105 ?_
  refine l_iast C 1 rfl (iI_in (by decide) (by decide) (by decide)) (n := 4) (by decide) dX5_init_106 (fun h => ?_)
  refine l_ws (ws' := [(q0, .inr (5, [.ref q1, .ref q2, .ref q3, .ref q4, .ref q5, .ref q6, .ref q7, .ref q8, .ref q9, .ref q10, .int 0, .int 0, .long 0, .long 0, .ref q11, .int 0, .int 0])), (q1, .inl (yc 0, 6, .inl (upd (upd (upd (upd (upd (fun _ => 0) 0 (iI (-1))) 1 (iI (-1))) 2 (iI (-1))) 3 (iI (-1))) 4 (iI (-1))))), (q2, .inl (yc 0, 240, .inl (fun _ => 0))), (q3, .inl (yc 0, 40, .inl (fun _ => 0))), (q4, .inl (yc 0, 4, .inl (fun _ => 0))), (q5, .inl (yc 0, 240, .inl (fun _ => 0))), (q6, .inl (yc 0, 98, .inl (fun _ => 0))), (q7, .inl (yc 0, 98, .inl (fun _ => 0))), (q8, .inl (yc 0, 294, .inl (fun _ => 0))), (q9, .inl (yc 1, 3, .inl (fun _ => 0))), (q10, .inl (yc 0, 6, .inl (fun _ => 0))), (q11, .inl (yc 0, 3, .inl (fun _ => 0)))]) rfl (fun h => ?_)
  refine x_iinc (z' := 5) (lv' := [(1, .int (iI (5))), (0, .ref q0)]) C 0 dX5_init_107 rfl (by decide) (by decide) rfl ?_
  refine x_goto (tgt := 94) C dX5_init_110 (by decide) ?_
  refine x_iload_n C 0 dX5_init_94 rfl ?_
  refine x_bipush C dX5_init_95 (by decide) ?_
  refine x_icmp_ge (tgt := 113) C dX5_init_97 (by decide) (by decide) (by decide) (fun h9 => absurd h9 (by decide)) (fun _ => ?_)
  refine x_aload_n C 1 dX5_init_100 rfl ?_
  refine l_get C 0 rfl rfl 0 (by decide) wf7 hinX5 rfl dX5_init_101 ?_
  refine x_iload_n C 0 dX5_init_104 rfl ?_
  refine x_iconst C dX5_init_105 ?_
  refine l_iast C 1 rfl (iI_in (by decide) (by decide) (by decide)) (n := 5) (by decide) dX5_init_106 (fun h => ?_)
  refine l_ws (ws' := [(q0, .inr (5, [.ref q1, .ref q2, .ref q3, .ref q4, .ref q5, .ref q6, .ref q7, .ref q8, .ref q9, .ref q10, .int 0, .int 0, .long 0, .long 0, .ref q11, .int 0, .int 0])), (q1, .inl (yc 0, 6, .inl (upd (upd (upd (upd (upd (upd (fun _ => 0) 0 (iI (-1))) 1 (iI (-1))) 2 (iI (-1))) 3 (iI (-1))) 4 (iI (-1))) 5 (iI (-1))))), (q2, .inl (yc 0, 240, .inl (fun _ => 0))), (q3, .inl (yc 0, 40, .inl (fun _ => 0))), (q4, .inl (yc 0, 4, .inl (fun _ => 0))), (q5, .inl (yc 0, 240, .inl (fun _ => 0))), (q6, .inl (yc 0, 98, .inl (fun _ => 0))), (q7, .inl (yc 0, 98, .inl (fun _ => 0))), (q8, .inl (yc 0, 294, .inl (fun _ => 0))), (q9, .inl (yc 1, 3, .inl (fun _ => 0))), (q10, .inl (yc 0, 6, .inl (fun _ => 0))), (q11, .inl (yc 0, 3, .inl (fun _ => 0)))]) rfl (fun h => ?_)
  refine x_iinc (z' := 6) (lv' := [(1, .int (iI (6))), (0, .ref q0)]) C 0 dX5_init_107 rfl (by decide) (by decide) rfl ?_
  refine x_goto (tgt := 94) C dX5_init_110 (by decide) ?_
  refine x_iload_n C 0 dX5_init_94 rfl ?_
  refine x_bipush C dX5_init_95 (by decide) ?_
  refine x_icmp_ge (tgt := 113) C dX5_init_97 (by decide) (by decide) (by decide) (fun _ => ?_) (fun h9 => absurd h9 (by decide))
  refine x_iconst C dX5_init_113 ?_
  refine x_istore_n (lv' := [(1, .int (iI (0))), (0, .ref q0)]) C dX5_init_114 (by decide) rfl ?_
  refine x_iload_n C 0 dX5_init_115 rfl ?_
  refine x_iconst C dX5_init_116 ?_
  refine x_icmp_ge (tgt := 133) C dX5_init_117 (by decide) (by decide) (by decide) (fun h9 => absurd h9 (by decide)) (fun _ => ?_)
  refine x_aload_n C 1 dX5_init_120 rfl ?_
  refine l_get C 0 rfl rfl 3 (by decide) wf19 hinX5 rfl dX5_init_121 ?_
  refine x_iload_n C 0 dX5_init_124 rfl ?_
  refine x_iconst C dX5_init_125 ?_
  refine l_iast C 4 rfl (iI_in (by decide) (by decide) (by decide)) (n := 0) (by decide) dX5_init_126 (fun h => ?_)
  refine l_ws (ws' := [(q0, .inr (5, [.ref q1, .ref q2, .ref q3, .ref q4, .ref q5, .ref q6, .ref q7, .ref q8, .ref q9, .ref q10, .int 0, .int 0, .long 0, .long 0, .ref q11, .int 0, .int 0])), (q1, .inl (yc 0, 6, .inl (upd (upd (upd (upd (upd (upd (fun _ => 0) 0 (iI (-1))) 1 (iI (-1))) 2 (iI (-1))) 3 (iI (-1))) 4 (iI (-1))) 5 (iI (-1))))), (q2, .inl (yc 0, 240, .inl (fun _ => 0))), (q3, .inl (yc 0, 40, .inl (fun _ => 0))), (q4, .inl (yc 0, 4, .inl (upd (fun _ => 0) 0 (iI (-1))))), (q5, .inl (yc 0, 240, .inl (fun _ => 0))), (q6, .inl (yc 0, 98, .inl (fun _ => 0))), (q7, .inl (yc 0, 98, .inl (fun _ => 0))), (q8, .inl (yc 0, 294, .inl (fun _ => 0))), (q9, .inl (yc 1, 3, .inl (fun _ => 0))), (q10, .inl (yc 0, 6, .inl (fun _ => 0))), (q11, .inl (yc 0, 3, .inl (fun _ => 0)))]) rfl (fun h => ?_)
  refine x_iinc (z' := 1) (lv' := [(1, .int (iI (1))), (0, .ref q0)]) C 0 dX5_init_127 rfl (by decide) (by decide) rfl ?_
  refine x_goto (tgt := 115) C dX5_init_130 (by decide) ?_
  refine x_iload_n C 0 dX5_init_115 rfl ?_
  refine x_iconst C dX5_init_116 ?_
  refine x_icmp_ge (tgt := 133) C dX5_init_117 (by decide) (by decide) (by decide) (fun h9 => absurd h9 (by decide)) (fun _ => ?_)
  refine x_aload_n C 1 dX5_init_120 rfl ?_
  refine l_get C 0 rfl rfl 3 (by decide) wf19 hinX5 rfl dX5_init_121 ?_
  refine x_iload_n C 0 dX5_init_124 rfl ?_
  refine x_iconst C dX5_init_125 ?_
  refine l_iast C 4 rfl (iI_in (by decide) (by decide) (by decide)) (n := 1) (by decide) dX5_init_126 (fun h => ?_)
  refine l_ws (ws' := [(q0, .inr (5, [.ref q1, .ref q2, .ref q3, .ref q4, .ref q5, .ref q6, .ref q7, .ref q8, .ref q9, .ref q10, .int 0, .int 0, .long 0, .long 0, .ref q11, .int 0, .int 0])), (q1, .inl (yc 0, 6, .inl (upd (upd (upd (upd (upd (upd (fun _ => 0) 0 (iI (-1))) 1 (iI (-1))) 2 (iI (-1))) 3 (iI (-1))) 4 (iI (-1))) 5 (iI (-1))))), (q2, .inl (yc 0, 240, .inl (fun _ => 0))), (q3, .inl (yc 0, 40, .inl (fun _ => 0))), (q4, .inl (yc 0, 4, .inl (upd (upd (fun _ => 0) 0 (iI (-1))) 1 (iI (-1))))), (q5, .inl (yc 0, 240, .inl (fun _ => 0))), (q6, .inl (yc 0, 98, .inl (fun _ => 0))), (q7, .inl (yc 0, 98, .inl (fun _ => 0))), (q8, .inl (yc 0, 294, .inl (fun _ => 0))), (q9, .inl (yc 1, 3, .inl (fun _ => 0))), (q10, .inl (yc 0, 6, .inl (fun _ => 0))), (q11, .inl (yc 0, 3, .inl (fun _ => 0)))]) rfl (fun h => ?_)
  refine x_iinc (z' := 2) (lv' := [(1, .int (iI (2))), (0, .ref q0)]) C 0 dX5_init_127 rfl (by decide) (by decide) rfl ?_
  refine x_goto (tgt := 115) C dX5_init_130 (by decide) ?_
  refine x_iload_n C 0 dX5_init_115 rfl ?_
  refine x_iconst C dX5_init_116 ?_
  refine x_icmp_ge (tgt := 133) C dX5_init_117 (by decide) (by decide) (by decide) (fun h9 => absurd h9 (by decide)) (fun _ => ?_)
  refine x_aload_n C 1 dX5_init_120 rfl ?_
  refine l_get C 0 rfl rfl 3 (by decide) wf19 hinX5 rfl dX5_init_121 ?_
  refine x_iload_n C 0 dX5_init_124 rfl ?_
  refine x_iconst C dX5_init_125 ?_
  refine l_iast C 4 rfl (iI_in (by decide) (by decide) (by decide)) (n := 2) (by decide) dX5_init_126 (fun h => ?_)
  refine l_ws (ws' := [(q0, .inr (5, [.ref q1, .ref q2, .ref q3, .ref q4, .ref q5, .ref q6, .ref q7, .ref q8, .ref q9, .ref q10, .int 0, .int 0, .long 0, .long 0, .ref q11, .int 0, .int 0])), (q1, .inl (yc 0, 6, .inl (upd (upd (upd (upd (upd (upd (fun _ => 0) 0 (iI (-1))) 1 (iI (-1))) 2 (iI (-1))) 3 (iI (-1))) 4 (iI (-1))) 5 (iI (-1))))), (q2, .inl (yc 0, 240, .inl (fun _ => 0))), (q3, .inl (yc 0, 40, .inl (fun _ => 0))), (q4, .inl (yc 0, 4, .inl (upd (upd (upd (fun _ => 0) 0 (iI (-1))) 1 (iI (-1))) 2 (iI (-1))))), (q5, .inl (yc 0, 240, .inl (fun _ => 0))), (q6, .inl (yc 0, 98, .inl (fun _ => 0))), (q7, .inl (yc 0, 98, .inl (fun _ => 0))), (q8, .inl (yc 0, 294, .inl (fun _ => 0))), (q9, .inl (yc 1, 3, .inl (fun _ => 0))), (q10, .inl (yc 0, 6, .inl (fun _ => 0))), (q11, .inl (yc 0, 3, .inl (fun _ => 0)))]) rfl (fun h => ?_)
  refine x_iinc (z' := 3) (lv' := [(1, .int (iI (3))), (0, .ref q0)]) C 0 dX5_init_127 rfl (by decide) (by decide) rfl ?_
  refine x_goto (tgt := 115) C dX5_init_130 (by decide) ?_
  refine x_iload_n C 0 dX5_init_115 rfl ?_
  refine x_iconst C dX5_init_116 ?_
  refine x_icmp_ge (tgt := 133) C dX5_init_117 (by decide) (by decide) (by decide) (fun h9 => absurd h9 (by decide)) (fun _ => ?_)
  refine x_aload_n C 1 dX5_init_120 rfl ?_
  refine l_get C 0 rfl rfl 3 (by decide) wf19 hinX5 rfl dX5_init_121 ?_
  refine x_iload_n C 0 dX5_init_124 rfl ?_
  refine x_iconst C dX5_init_125 ?_
  refine l_iast C 4 rfl (iI_in (by decide) (by decide) (by decide)) (n := 3) (by decide) dX5_init_126 (fun h => ?_)
  refine l_ws (ws' := [(q0, .inr (5, [.ref q1, .ref q2, .ref q3, .ref q4, .ref q5, .ref q6, .ref q7, .ref q8, .ref q9, .ref q10, .int 0, .int 0, .long 0, .long 0, .ref q11, .int 0, .int 0])), (q1, .inl (yc 0, 6, .inl (upd (upd (upd (upd (upd (upd (fun _ => 0) 0 (iI (-1))) 1 (iI (-1))) 2 (iI (-1))) 3 (iI (-1))) 4 (iI (-1))) 5 (iI (-1))))), (q2, .inl (yc 0, 240, .inl (fun _ => 0))), (q3, .inl (yc 0, 40, .inl (fun _ => 0))), (q4, .inl (yc 0, 4, .inl (upd (upd (upd (upd (fun _ => 0) 0 (iI (-1))) 1 (iI (-1))) 2 (iI (-1))) 3 (iI (-1))))), (q5, .inl (yc 0, 240, .inl (fun _ => 0))), (q6, .inl (yc 0, 98, .inl (fun _ => 0))), (q7, .inl (yc 0, 98, .inl (fun _ => 0))), (q8, .inl (yc 0, 294, .inl (fun _ => 0))), (q9, .inl (yc 1, 3, .inl (fun _ => 0))), (q10, .inl (yc 0, 6, .inl (fun _ => 0))), (q11, .inl (yc 0, 3, .inl (fun _ => 0)))]) rfl (fun h => ?_)
  refine x_iinc (z' := 4) (lv' := [(1, .int (iI (4))), (0, .ref q0)]) C 0 dX5_init_127 rfl (by decide) (by decide) rfl ?_
  refine x_goto (tgt := 115) C dX5_init_130 (by decide) ?_
  refine x_iload_n C 0 dX5_init_115 rfl ?_
  refine x_iconst C dX5_init_116 ?_
  refine x_icmp_ge (tgt := 133) C dX5_init_117 (by decide) (by decide) (by decide) (fun _ => ?_) (fun h9 => absurd h9 (by decide))
  refine x_aload_n C 1 dX5_init_133 rfl ?_
  refine x_lconst (z := 1) C dX5_init_134 (by decide) ?_
  refine l_put C 0 rfl rfl 13 (by decide) wf44 hinX5 tyX5 tyX5_ok nmX5 rfl (tyX5_ok 13 (by decide)) rfl rfl (Nat.le_of_ble_eq_true rfl) dX5_init_135 (fun h => ?_)
  refine l_ws (ws' := [(q0, .inr (5, [.ref q1, .ref q2, .ref q3, .ref q4, .ref q5, .ref q6, .ref q7, .ref q8, .ref q9, .ref q10, .int 0, .int 0, .long 0, .long (lI (1)), .ref q11, .int 0, .int 0])), (q1, .inl (yc 0, 6, .inl (upd (upd (upd (upd (upd (upd (fun _ => 0) 0 (iI (-1))) 1 (iI (-1))) 2 (iI (-1))) 3 (iI (-1))) 4 (iI (-1))) 5 (iI (-1))))), (q2, .inl (yc 0, 240, .inl (fun _ => 0))), (q3, .inl (yc 0, 40, .inl (fun _ => 0))), (q4, .inl (yc 0, 4, .inl (upd (upd (upd (upd (fun _ => 0) 0 (iI (-1))) 1 (iI (-1))) 2 (iI (-1))) 3 (iI (-1))))), (q5, .inl (yc 0, 240, .inl (fun _ => 0))), (q6, .inl (yc 0, 98, .inl (fun _ => 0))), (q7, .inl (yc 0, 98, .inl (fun _ => 0))), (q8, .inl (yc 0, 294, .inl (fun _ => 0))), (q9, .inl (yc 1, 3, .inl (fun _ => 0))), (q10, .inl (yc 0, 6, .inl (fun _ => 0))), (q11, .inl (yc 0, 3, .inl (fun _ => 0)))]) rfl (fun h => ?_)
  exact l_ret C rfl dX5_init_138 ⟨q1, q2, q3, q4, q5, q6, q7, q8, q9, q10, q11, rfl⟩
