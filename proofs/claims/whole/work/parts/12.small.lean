set_option maxRecDepth 100000 in
set_option maxHeartbeats 4000000 in
theorem c_X0_isOf (l : Launch) (D : va_G) (yc : Nat → ClassId) (t1 t2 : Nat) (a : Int → Nat) (A : Nat → Prop) (g : Mm) (f i w k : Int) (hf : 0 ≤ f ∧ f < 5) (hi : 0 ≤ i ∧ i < 6) (hk : g (56 + 6 * f + i) 0 = k) (hk5 : 0 ≤ k ∧ k ≤ 5) (hw : R32 w) : Ci l yX0_isOf wsX0_isOf { frames := 0, cells := 0, slots := 0, locals := 0 } D yc t1 t2 A (cw a yc) [.ref (a (56 + 6 * f + i)), .int (iI (w))] g (fun r9 g' => r9 = (bI (w = k ∨ w = 0 ∨ (k = 4 ∧ w = 2) ∨ (k = 5 ∧ w = 3))) ∧ g' = g) := by
  refine start_i (cc := cX0_isOf) (nL := 4) (ret := (some .boolean)) (own := RX0) (by decide +kernel) rfl rfl (Nat.le_of_ble_eq_true rfl) ?_
  intro p e s m9 below meth c9 C
  have wf9 : Cond.fieldLink RX0 9 (TX0 0).1 (TX0 0).2.1 (TX0 0).2.2.1 ∈ wsX0_isOf := by decide +kernel
  have hinX0 : ∀ w ∈ u_ws RX0 TX0 5, w ∈ wsX0_isOf := by decide +kernel
  refine v_lv (lv' := [(0, .ref (a (56 + 6 * f + i))), (1, .int (iI (w)))]) rfl ?_
  refine v_aload_n C 0 dX0_isOf_0 rfl ?_
  refine v_getf C (by omega) (by omega) (ct_beast (by omega) (by omega) (by omega) (by omega)) rfl 0 (by decide) wf9 hinX0 rfl dX0_isOf_1 ?_
  refine v_st (st' := [.int (iI (k))]) (by rw [hk]) ?_
  refine v_istore_n (lv' := [(2, .int (iI (k))), (0, .ref (a (56 + 6 * f + i))), (1, .int (iI (w)))]) C dX0_isOf_4 (by decide) rfl ?_
  refine v_iconst C dX0_isOf_5 ?_
  refine v_istore_n (lv' := [(3, .int (iI (0))), (2, .int (iI (k))), (0, .ref (a (56 + 6 * f + i))), (1, .int (iI (w)))]) C dX0_isOf_6 (by decide) rfl ?_
  refine v_loop2 (fun (x : Int) (t : Int) => (6 - t).toNat) (fun (x : Int) (t : Int) => 0 ≤ t ∧ t ≤ 3 ∧ -1 ≤ x ∧ x ≤ 5 ∧ (4 ≤ x → t ≤ 0) ∧ (1 ≤ x → t ≤ 1) ∧ (0 ≤ x → t ≤ 2) ∧ ((w = k ∨ w = 0 ∨ (k = 4 ∧ w = 2) ∨ (k = 5 ∧ w = 3)) ↔ (0 ≤ x ∧ (w = x ∨ w = 0 ∨ (x = 4 ∧ w = 2) ∨ (x = 5 ∧ w = 3))))) (fun (x : Int) (t : Int) => [(3, .int (iI (t))), (2, .int (iI (x))), (0, .ref (a (56 + 6 * f + i))), (1, .int (iI (w)))]) (fun (x : Int) (t : Int) => g) ?_ k 0 (by omega)
  intro x t hI7 ih7
  try dsimp only at ih7 ⊢
  refine v_iload_n C 0 dX0_isOf_7 rfl ?_
  refine v_gs1 C rfl dX0_isOf_8 ?_
  refine v_tl1 C dX0_isOf_11 ?_
  refine v_icmp_ge (tgt := 46) C dX0_isOf_12 (by decide) (by omega) (by omega) (fun c12 => ?_) (fun c12 => ?_)
  · skip
    refine v_iconst C dX0_isOf_46 ?_
    exact v_ret_z C rfl (Or.inl rfl) dX0_isOf_47 ⟨(bI_f (by omega)), rfl⟩
  · skip
    refine v_iload_n C 1 dX0_isOf_15 rfl ?_
    refine v_if_lt (tgt := 46) C dX0_isOf_16 (by decide) (by omega) (fun c16 => ?_) (fun c16 => ?_)
    · skip
      refine v_iconst C dX0_isOf_46 ?_
      exact v_ret_z C rfl (Or.inl rfl) dX0_isOf_47 ⟨(bI_f (by omega)), rfl⟩
    · skip
      refine v_iload_n C 1 dX0_isOf_19 rfl ?_
      refine v_gs1 C rfl dX0_isOf_20 ?_
      refine v_tl1 C dX0_isOf_23 ?_
      refine v_icmp_ge (tgt := 46) C dX0_isOf_24 (by decide) (by omega) (by omega) (fun c24 => ?_) (fun c24 => ?_)
      · skip
        refine v_iconst C dX0_isOf_46 ?_
        exact v_ret_z C rfl (Or.inl rfl) dX0_isOf_47 ⟨(bI_f (by omega)), rfl⟩
      · skip
        refine v_iload_n C 1 dX0_isOf_27 rfl ?_
        refine v_iload_n C 3 dX0_isOf_28 rfl ?_
        refine v_icmp_ne (tgt := 34) C dX0_isOf_29 (by decide) (by omega) (by omega) (fun c29 => ?_) (fun c29 => ?_)
        · skip
          refine v_gs1 C rfl dX0_isOf_34 ?_
          refine v_iload_n C 1 dX0_isOf_37 rfl ?_
          refine v_ta1 C (by omega) (by omega) dX0_isOf_38 ?_
          refine v_st (st' := [.int (iI (if x = 0 then -1 else if x = 4 then 2 else if x = 5 then 3 else 0))]) rfl ?_
          refine v_istore_n (lv' := [(2, .int (iI (if x = 0 then -1 else if x = 4 then 2 else if x = 5 then 3 else 0))), (3, .int (iI (t))), (0, .ref (a (56 + 6 * f + i))), (1, .int (iI (w)))]) C dX0_isOf_39 (by decide) rfl ?_
          refine v_iinc (z' := t + 1) (lv' := [(3, .int (iI (t + 1))), (2, .int (iI (if x = 0 then -1 else if x = 4 then 2 else if x = 5 then 3 else 0))), (0, .ref (a (56 + 6 * f + i))), (1, .int (iI (w)))]) C 1 dX0_isOf_40 rfl (by omega) (by decide) rfl ?_
          refine v_goto (tgt := 7) C dX0_isOf_43 (by decide) ?_
          exact ih7 (if x = 0 then -1 else if x = 4 then 2 else if x = 5 then 3 else 0) (t + 1) (by omega) (by omega)
        · skip
          refine v_iconst C dX0_isOf_32 ?_
          exact v_ret_z C rfl (Or.inr rfl) dX0_isOf_33 ⟨(bI_t (by omega)), rfl⟩

set_option maxRecDepth 100000 in
set_option maxHeartbeats 4000000 in
theorem c_X0_valueTo (l : Launch) (D : va_G) (yc : Nat → ClassId) (t1 t2 : Nat) (a : Int → Nat) (A : Nat → Prop) (g : Mm) (f i q : Int) (hf : 0 ≤ f ∧ f < 5) (hi : 0 ≤ i ∧ i < 6) (hq : R32 q) : Ci l yX0_valueTo wsX0_valueTo { frames := 0, cells := 0, slots := 0, locals := 0 } D yc t1 t2 A (cw a yc) [.ref (a (56 + 6 * f + i)), .int (iI (q))] g (fun r9 g' => r9 = (iI (if q = 0 then g (56 + 6 * f + i) 3 else g (56 + 6 * f + i) 4)) ∧ g' = g) := by
  refine start_i (cc := cX0_valueTo) (nL := 2) (ret := (some .int)) (own := RX0) (by decide +kernel) rfl rfl (Nat.le_of_ble_eq_true rfl) ?_
  intro p e s m9 below meth c9 C
  have wf32 : Cond.fieldLink RX0 32 (TX0 4).1 (TX0 4).2.1 (TX0 4).2.2.1 ∈ wsX0_valueTo := by decide +kernel
  have hinX0 : ∀ w ∈ u_ws RX0 TX0 5, w ∈ wsX0_valueTo := by decide +kernel
  have wf29 : Cond.fieldLink RX0 29 (TX0 3).1 (TX0 3).2.1 (TX0 3).2.2.1 ∈ wsX0_valueTo := by decide +kernel
  refine v_lv (lv' := [(0, .ref (a (56 + 6 * f + i))), (1, .int (iI (q)))]) rfl ?_
  refine v_iload_n C 1 dX0_valueTo_0 rfl ?_
  refine v_if_ne (tgt := 11) C dX0_valueTo_1 (by decide) (by omega) (fun c1 => ?_) (fun c1 => ?_)
  · skip
    refine v_aload_n C 0 dX0_valueTo_11 rfl ?_
    refine v_getf C (by omega) (by omega) (ct_beast (by omega) (by omega) (by omega) (by omega)) rfl 4 (by decide) wf32 hinX0 rfl dX0_valueTo_12 ?_
    exact v_ret_i C rfl dX0_valueTo_15 ⟨(by simp [*]), rfl⟩
  · skip
    refine v_aload_n C 0 dX0_valueTo_4 rfl ?_
    refine v_getf C (by omega) (by omega) (ct_beast (by omega) (by omega) (by omega) (by omega)) rfl 3 (by decide) wf29 hinX0 rfl dX0_valueTo_5 ?_
    refine v_goto (tgt := 15) C dX0_valueTo_8 (by decide) ?_
    exact v_ret_i C rfl dX0_valueTo_15 ⟨(by simp [*]), rfl⟩

set_option maxRecDepth 100000 in
set_option maxHeartbeats 4000000 in
theorem c_X0_tell (l : Launch) (D : va_G) (yc : Nat → ClassId) (t1 t2 : Nat) (a : Int → Nat) (A : Nat → Prop) (g : Mm) (f i q : Int) (hf : 0 ≤ f ∧ f < 5) (hi : 0 ≤ i ∧ i < 6) (hq : 0 ≤ q ∧ q ≤ 4) : Ci l yX0_tell wsX0_tell { frames := 0, cells := 0, slots := 0, locals := 0 } D yc t1 t2 A (cw a yc) [.ref (a (56 + 6 * f + i)), .int (iI (q))] g (fun r9 g' => r9 = (iI (g (56 + 6 * f + i) q)) ∧ g' = g) := by
  refine start_i (cc := cX0_tell) (nL := 2) (ret := (some .int)) (own := RX0) (by decide +kernel) rfl rfl (Nat.le_of_ble_eq_true rfl) ?_
  intro p e s m9 below meth c9 C
  have wf9 : Cond.fieldLink RX0 9 (TX0 0).1 (TX0 0).2.1 (TX0 0).2.2.1 ∈ wsX0_tell := by decide +kernel
  have hinX0 : ∀ w ∈ u_ws RX0 TX0 5, w ∈ wsX0_tell := by decide +kernel
  have wf19 : Cond.fieldLink RX0 19 (TX0 1).1 (TX0 1).2.1 (TX0 1).2.2.1 ∈ wsX0_tell := by decide +kernel
  have wf22 : Cond.fieldLink RX0 22 (TX0 2).1 (TX0 2).2.1 (TX0 2).2.2.1 ∈ wsX0_tell := by decide +kernel
  have wf29 : Cond.fieldLink RX0 29 (TX0 3).1 (TX0 3).2.1 (TX0 3).2.2.1 ∈ wsX0_tell := by decide +kernel
  have wf32 : Cond.fieldLink RX0 32 (TX0 4).1 (TX0 4).2.1 (TX0 4).2.2.1 ∈ wsX0_tell := by decide +kernel
  refine v_lv (lv' := [(0, .ref (a (56 + 6 * f + i))), (1, .int (iI (q)))]) rfl ?_
  refine v_iload_n C 1 dX0_tell_0 rfl ?_
  rcases (show q = 0 ∨ q = 1 ∨ q = 2 ∨ q = 3 ∨ (q < 0 ∨ 3 < q) by omega) with c1 | c1 | c1 | c1 | c1
  · refine v_tin (off := 31) (tgt := 32) C 0 dX0_tell_1 c1 (by decide) (by decide) (by decide) rfl (by decide) ?_
    refine v_aload_n C 0 dX0_tell_32 rfl ?_
    refine v_getf C (by omega) (by omega) (ct_beast (by omega) (by omega) (by omega) (by omega)) rfl 0 (by decide) wf9 hinX0 rfl dX0_tell_33 ?_
    exact v_ret_i C rfl dX0_tell_36 ⟨(by simp [*]), rfl⟩
  · refine v_tin (off := 36) (tgt := 37) C 1 dX0_tell_1 c1 (by decide) (by decide) (by decide) rfl (by decide) ?_
    refine v_aload_n C 0 dX0_tell_37 rfl ?_
    refine v_getf C (by omega) (by omega) (ct_beast (by omega) (by omega) (by omega) (by omega)) rfl 1 (by decide) wf19 hinX0 rfl dX0_tell_38 ?_
    exact v_ret_i C rfl dX0_tell_41 ⟨(by simp [*]), rfl⟩
  · refine v_tin (off := 41) (tgt := 42) C 2 dX0_tell_1 c1 (by decide) (by decide) (by decide) rfl (by decide) ?_
    refine v_aload_n C 0 dX0_tell_42 rfl ?_
    refine v_getf C (by omega) (by omega) (ct_beast (by omega) (by omega) (by omega) (by omega)) rfl 2 (by decide) wf22 hinX0 rfl dX0_tell_43 ?_
    exact v_ret_i C rfl dX0_tell_46 ⟨(by simp [*]), rfl⟩
  · refine v_tin (off := 46) (tgt := 47) C 3 dX0_tell_1 c1 (by decide) (by decide) (by decide) rfl (by decide) ?_
    refine v_aload_n C 0 dX0_tell_47 rfl ?_
    refine v_getf C (by omega) (by omega) (ct_beast (by omega) (by omega) (by omega) (by omega)) rfl 3 (by decide) wf29 hinX0 rfl dX0_tell_48 ?_
    exact v_ret_i C rfl dX0_tell_51 ⟨(by simp [*]), rfl⟩
  · refine v_tout (tgt := 52) C dX0_tell_1 (by omega) c1 (by decide) ?_
    refine v_aload_n C 0 dX0_tell_52 rfl ?_
    refine v_getf C (by omega) (by omega) (ct_beast (by omega) (by omega) (by omega) (by omega)) rfl 4 (by decide) wf32 hinX0 rfl dX0_tell_53 ?_
    exact v_ret_i C rfl dX0_tell_56 ⟨(by rw [show q = 4 by omega]), rfl⟩

set_option maxRecDepth 100000 in
set_option maxHeartbeats 4000000 in
theorem c_X3_hasRun (l : Launch) (D : va_G) (yc : Nat → ClassId) (t1 t2 : Nat) (a : Int → Nat) (A : Nat → Prop) (g : Mm) (r i n : Int) (hr : 0 ≤ r ∧ r < 10) (hi : R32 i) (hn : R32 n) (hz : -1 ≤ g (6 + r) 1 ∧ g (6 + r) 1 ≤ 60) : Ci l yX3_hasRun wsX3_hasRun { frames := 0, cells := 0, slots := 0, locals := 0 } D yc t1 t2 A (cw a yc) [.ref (a (6 + r)), .int (iI (i)), .int (iI (n))] g (fun r9 g' => r9 = (bI (0 ≤ i ∧ 0 ≤ n ∧ i + n ≤ g (6 + r) 1)) ∧ g' = g) := by
  refine start_i (cc := cX3_hasRun) (nL := 3) (ret := (some .boolean)) (own := RX3) (by decide +kernel) rfl rfl (Nat.le_of_ble_eq_true rfl) ?_
  intro p e s m9 below meth c9 C
  have wf9 : Cond.fieldLink RX3 9 (TX3 1).1 (TX3 1).2.1 (TX3 1).2.2.1 ∈ wsX3_hasRun := by decide +kernel
  have hinX3 : ∀ w ∈ u_ws RX3 TX3 2, w ∈ wsX3_hasRun := by decide +kernel
  refine v_lv (lv' := [(0, .ref (a (6 + r))), (1, .int (iI (i))), (2, .int (iI (n)))]) rfl ?_
  refine v_iload_n C 1 dX3_hasRun_0 rfl ?_
  refine v_if_lt (tgt := 30) C dX3_hasRun_1 (by decide) (by omega) (fun c1 => ?_) (fun c1 => ?_)
  · skip
    refine v_iconst C dX3_hasRun_30 ?_
    exact v_ret_z C rfl (Or.inl rfl) dX3_hasRun_31 ⟨(bI_f (by omega)), rfl⟩
  · skip
    refine v_iload_n C 2 dX3_hasRun_4 rfl ?_
    refine v_if_lt (tgt := 30) C dX3_hasRun_5 (by decide) (by omega) (fun c5 => ?_) (fun c5 => ?_)
    · skip
      refine v_iconst C dX3_hasRun_30 ?_
      exact v_ret_z C rfl (Or.inl rfl) dX3_hasRun_31 ⟨(bI_f (by omega)), rfl⟩
    · skip
      refine v_iload_n C 1 dX3_hasRun_8 rfl ?_
      refine v_aload_n C 0 dX3_hasRun_9 rfl ?_
      refine v_getf C (by omega) (by omega) (ct_row (by omega) (by omega)) rfl 1 (by decide) wf9 hinX3 rfl dX3_hasRun_10 ?_
      refine v_icmp_gt (tgt := 30) C dX3_hasRun_13 (by decide) (by omega) (by omega) (fun c13 => ?_) (fun c13 => ?_)
      · skip
        refine v_iconst C dX3_hasRun_30 ?_
        exact v_ret_z C rfl (Or.inl rfl) dX3_hasRun_31 ⟨(bI_f (by omega)), rfl⟩
      · skip
        refine v_iload_n C 2 dX3_hasRun_16 rfl ?_
        refine v_aload_n C 0 dX3_hasRun_17 rfl ?_
        refine v_getf C (by omega) (by omega) (ct_row (by omega) (by omega)) rfl 1 (by decide) wf9 hinX3 rfl dX3_hasRun_18 ?_
        refine v_iload_n C 1 dX3_hasRun_21 rfl ?_
        refine v_isub C dX3_hasRun_22 ?_
        refine v_icmp_gt (tgt := 30) C dX3_hasRun_23 (by decide) (by omega) (by omega) (fun c23 => ?_) (fun c23 => ?_)
        · skip
          refine v_iconst C dX3_hasRun_30 ?_
          exact v_ret_z C rfl (Or.inl rfl) dX3_hasRun_31 ⟨(bI_f (by omega)), rfl⟩
        · skip
          refine v_iconst C dX3_hasRun_26 ?_
          refine v_goto (tgt := 31) C dX3_hasRun_27 (by decide) ?_
          exact v_ret_z C rfl (Or.inr rfl) dX3_hasRun_31 ⟨(bI_t (by omega)), rfl⟩

set_option maxRecDepth 100000 in
set_option maxHeartbeats 4000000 in
theorem c_X3_become (l : Launch) (D : va_G) (yc : Nat → ClassId) (t1 t2 : Nat) (a : Int → Nat) (A : Nat → Prop) (g : Mm) (r n v : Int) (hr : 0 ≤ r ∧ r < 10) (hn : 0 ≤ n ∧ n ≤ (rlen r : Int)) : Cv l yX3_become wsX3_become { frames := 1, cells := 0, slots := 0, locals := 24 } D yc t1 t2 A (cw a yc) [.ref (a (6 + r)), .int (iI (n)), .int (iI (v))] g (fun g' => g' = (fil (mu g (6 + r) 1 n) (16 + r) n v)) := by
  refine start_v (cc := cX3_become) (nL := 4) (ret := none) (own := RX3) (by decide +kernel) rfl rfl (Nat.le_of_ble_eq_true rfl) ?_
  intro p e s m9 below meth c9 C
  have wf21 : Cond.fieldLink RX3 21 (TX3 0).1 (TX3 0).2.1 (TX3 0).2.2.1 ∈ wsX3_become := by decide +kernel
  have hinX3 : ∀ w ∈ u_ws RX3 TX3 2, w ∈ wsX3_become := by decide +kernel
  have wm25 : Cond.methodLink RX3 25 Lib.Math.min.name ∈ wsX3_become := by decide +kernel
  have wnmin : Cond.static Lib.Math.min.name ∈ wsX3_become := by decide +kernel
  have wmi : Cond.initialized "java/lang/Math" ∈ wsX3_become := by decide +kernel
  have womin : Cond.code Lib.Math.min.name Lib.Math.min.code 2 (some .int) ∈ wsX3_become := by decide +kernel
  have wf9 : Cond.fieldLink RX3 9 (TX3 1).1 (TX3 1).2.1 (TX3 1).2.2.1 ∈ wsX3_become := by decide +kernel
  have hl60 : ((rlen r : Nat) : Int) ≤ 60 := by unfold rlen; split <;> decide
  refine v_lv (lv' := [(0, .ref (a (6 + r))), (1, .int (iI (n))), (2, .int (iI (v)))]) rfl ?_
  refine v_aload_n C 0 dX3_become_0 rfl ?_
  refine v_iload_n C 1 dX3_become_1 rfl ?_
  refine v_aload_n C 0 dX3_become_2 rfl ?_
  refine v_getf C (by omega) (by omega) (ct_row (by omega) (by omega)) rfl 0 (by decide) wf21 hinX3 rfl dX3_become_3 ?_
  refine v_alen C (by omega) (by omega) 0 rfl (ct_places (by omega) (by omega)) dX3_become_6 ?_
  refine v_mmin C wm25 wnmin wmi womin (by decide) (Nat.le_of_ble_eq_true rfl) (by omega) (by omega) dX3_become_7 ?_
  refine v_st (st' := [.int (iI (n)), .ref (a (6 + r))]) (by rw [if_neg (by omega)]) ?_
  refine v_puti C (cta_L a yc) (by omega) (by omega) (ct_row (by omega) (by omega)) rfl 1 (by decide) wf9 hinX3 tyX3 tyX3_ok nmX3 rfl (by decide +kernel) (by simp) (cs_row_1 (by omega) (by omega)) dX3_become_10 ?_
  refine v_g (g' := (mu g (6 + r) (1) (n))) rfl ?_
  refine v_iconst C dX3_become_13 ?_
  refine v_istore_n (lv' := [(3, .int (iI (0))), (0, .ref (a (6 + r))), (1, .int (iI (n))), (2, .int (iI (v)))]) C dX3_become_14 (by decide) rfl ?_
  refine v_g (g' := (fil (mu g (6 + r) 1 n) (16 + r) 0 v)) (by rw [fil_0]) ?_
  refine v_loop1 (fun (t : Int) => (n - t).toNat) (fun (t : Int) => 0 ≤ t ∧ t ≤ n) (fun (t : Int) => [(3, .int (iI (t))), (0, .ref (a (6 + r))), (1, .int (iI (n))), (2, .int (iI (v)))]) (fun (t : Int) => (fil (mu g (6 + r) 1 n) (16 + r) t v)) ?_ 0 (by omega)
  intro t hI15 ih15
  try dsimp only at ih15 ⊢
  refine v_iload_n C 0 dX3_become_15 rfl ?_
  refine v_aload_n C 1 dX3_become_16 rfl ?_
  refine v_getf C (by omega) (by omega) (ct_row (by omega) (by omega)) rfl 1 (by decide) wf9 hinX3 rfl dX3_become_17 ?_
  refine v_st (st' := [.int (iI (n)), .int (iI (t))]) (by unfold fil; rw [if_neg (by omega), mu_at]) ?_
  refine v_icmp_ge (tgt := 36) C dX3_become_20 (by decide) (by omega) (by omega) (fun c20 => ?_) (fun c20 => ?_)
  · skip
    exact v_ret_v C rfl dX3_become_36 (by rw [show t = n by omega])
  · skip
    refine v_aload_n C 1 dX3_become_23 rfl ?_
    refine v_getf C (by omega) (by omega) (ct_row (by omega) (by omega)) rfl 0 (by decide) wf21 hinX3 rfl dX3_become_24 ?_
    refine v_iload_n C 0 dX3_become_27 rfl ?_
    refine v_iload_n C 3 dX3_become_28 rfl ?_
    refine v_iastore C (cta_L a yc) (by omega) (by omega) (ct_places (by omega) (by omega)) (ct_places (by omega) (by omega)).symm (by omega) (by omega) (by unfold rlen; split <;> decide) dX3_become_29 ?_
    refine v_iinc (z' := t + 1) (lv' := [(3, .int (iI (t + 1))), (0, .ref (a (6 + r))), (1, .int (iI (n))), (2, .int (iI (v)))]) C 0 dX3_become_30 rfl (by omega) (by decide) rfl ?_
    refine v_goto (tgt := 15) C dX3_become_33 (by decide) ?_
    exact v_g (fil_s (by omega)) (ih15 (t + 1) (by omega) (by omega))

set_option maxRecDepth 100000 in
set_option maxHeartbeats 4000000 in
theorem c_X3_total (l : Launch) (D : va_G) (yc : Nat → ClassId) (t1 t2 : Nat) (a : Int → Nat) (A : Nat → Prop) (g : Mm) (r : Int) (hr : 0 ≤ r ∧ r < 10) (hz : 0 ≤ g (6 + r) 1 ∧ g (6 + r) 1 ≤ (rlen r : Int)) (hz2 : ∀ j, R32 (g (16 + r) j)) : Cl l yX3_total wsX3_total { frames := 0, cells := 0, slots := 0, locals := 0 } D yc t1 t2 A (cw a yc) [.ref (a (6 + r))] g (fun r9 g' => r9 = (lI (sI (fun j => g (16 + r) j) (g (6 + r) 1))) ∧ g' = g) := by
  refine start_l (cc := cX3_total) (nL := 4) (ret := (some .long)) (own := RX3) (by decide +kernel) rfl rfl (Nat.le_of_ble_eq_true rfl) ?_
  intro p e s m9 below meth c9 C
  have wf9 : Cond.fieldLink RX3 9 (TX3 1).1 (TX3 1).2.1 (TX3 1).2.2.1 ∈ wsX3_total := by decide +kernel
  have hinX3 : ∀ w ∈ u_ws RX3 TX3 2, w ∈ wsX3_total := by decide +kernel
  have wf21 : Cond.fieldLink RX3 21 (TX3 0).1 (TX3 0).2.1 (TX3 0).2.2.1 ∈ wsX3_total := by decide +kernel
  have hl60 : ((rlen r : Nat) : Int) ≤ 60 := by unfold rlen; split <;> decide
  refine v_lv (lv' := [(0, .ref (a (6 + r)))]) rfl ?_
  refine v_lconst (z := 0) C dX3_total_0 (by decide) ?_
  refine v_lstore_n (lv' := [(1, .long (lI (0))), (0, .ref (a (6 + r)))]) C dX3_total_1 (by decide) rfl ?_
  refine v_iconst C dX3_total_2 ?_
  refine v_istore_n (lv' := [(3, .int (iI (0))), (1, .long (lI (0))), (0, .ref (a (6 + r)))]) C dX3_total_3 (by decide) rfl ?_
  refine v_loop1 (fun (t : Int) => (g (6 + r) 1 - t).toNat) (fun (t : Int) => 0 ≤ t ∧ t ≤ g (6 + r) 1) (fun (t : Int) => [(3, .int (iI (t))), (1, .long (lI (sI (fun j => g (16 + r) j) t))), (0, .ref (a (6 + r)))]) (fun (t : Int) => g) ?_ 0 (by omega)
  intro t hI4 ih4
  try dsimp only at ih4 ⊢
  refine v_iload_n C 0 dX3_total_4 rfl ?_
  refine v_aload_n C 2 dX3_total_5 rfl ?_
  refine v_getf C (by omega) (by omega) (ct_row (by omega) (by omega)) rfl 1 (by decide) wf9 hinX3 rfl dX3_total_6 ?_
  refine v_icmp_ge (tgt := 28) C dX3_total_9 (by decide) (by omega) (by omega) (fun c9 => ?_) (fun c9 => ?_)
  · skip
    refine v_lload_n C 1 dX3_total_28 rfl ?_
    exact v_ret_l C rfl dX3_total_29 ⟨(by rw [show t = g (6 + r) 1 by omega]), rfl⟩
  · skip
    refine v_lload_n C 1 dX3_total_12 rfl ?_
    refine v_aload_n C 2 dX3_total_13 rfl ?_
    refine v_getf C (by omega) (by omega) (ct_row (by omega) (by omega)) rfl 0 (by decide) wf21 hinX3 rfl dX3_total_14 ?_
    refine v_iload_n C 0 dX3_total_17 rfl ?_
    refine v_iaload C (by omega) (by omega) (ct_places (by omega) (by omega)) (by omega) (by omega) (by unfold rlen; split <;> decide) dX3_total_18 ?_
    refine v_i2l C dX3_total_19 (hz2 _) ?_
    refine v_ladd C dX3_total_20 ?_
    refine v_st (st' := [.long (lI (sI (fun j => g (16 + r) j) (t + 1)))]) (by rw [sI_s _ (by omega)]) ?_
    refine v_lstore_n (lv' := [(1, .long (lI (sI (fun j => g (16 + r) j) (t + 1)))), (3, .int (iI (t))), (0, .ref (a (6 + r)))]) C dX3_total_21 (by decide) rfl ?_
    refine v_iinc (z' := t + 1) (lv' := [(3, .int (iI (t + 1))), (1, .long (lI (sI (fun j => g (16 + r) j) (t + 1)))), (0, .ref (a (6 + r)))]) C 1 dX3_total_22 rfl (by omega) (by decide) rfl ?_
    refine v_goto (tgt := 4) C dX3_total_25 (by decide) ?_
    exact ih4 (t + 1) (by omega) (by omega)
