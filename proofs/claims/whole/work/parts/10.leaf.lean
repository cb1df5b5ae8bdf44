set_option maxRecDepth 100000 in
set_option maxHeartbeats 4000000 in
theorem c_X4_outside (l : Launch) (D : va_G) (yc : Nat → ClassId) (t1 t2 : Nat) (A : Nat → Prop) {M : Type} (ww : M → va_W) (g : M) (v lo hi : Int) (hv : R32 v) (hlo : R32 lo) (hhi : R32 hi) : Ci l yX4_outside wsX4_outside { frames := 0, cells := 0, slots := 0, locals := 0 } D yc t1 t2 A ww [.int (iI (v)), .int (iI (lo)), .int (iI (hi))] g (fun r9 g' => r9 = (bI (v < lo ∨ hi < v)) ∧ g' = g) := by
  refine start_i (cc := cX4_outside) (nL := 3) (ret := (some .boolean)) (own := RX4) (by decide +kernel) rfl rfl (Nat.le_of_ble_eq_true rfl) ?_
  intro p e s m9 below meth c9 C
  refine v_lv (lv' := [(0, .int (iI (v))), (1, .int (iI (lo))), (2, .int (iI (hi)))]) rfl ?_
  refine v_iload_n C 0 dX4_outside_0 rfl ?_
  refine v_iload_n C 1 dX4_outside_1 rfl ?_
  refine v_icmp_lt (tgt := 10) C dX4_outside_2 (by decide) (by omega) (by omega) (fun c2 => ?_) (fun c2 => ?_)
  · skip
    refine v_iconst C dX4_outside_10 ?_
    refine v_goto (tgt := 15) C dX4_outside_11 (by decide) ?_
    exact v_ret_z C rfl (Or.inr rfl) dX4_outside_15 ⟨(bI_t (by omega)), rfl⟩
  · skip
    refine v_iload_n C 0 dX4_outside_5 rfl ?_
    refine v_iload_n C 2 dX4_outside_6 rfl ?_
    refine v_icmp_le (tgt := 14) C dX4_outside_7 (by decide) (by omega) (by omega) (fun c7 => ?_) (fun c7 => ?_)
    · skip
      refine v_iconst C dX4_outside_14 ?_
      exact v_ret_z C rfl (Or.inl rfl) dX4_outside_15 ⟨(bI_f (by omega)), rfl⟩
    · skip
      refine v_iconst C dX4_outside_10 ?_
      refine v_goto (tgt := 15) C dX4_outside_11 (by decide) ?_
      exact v_ret_z C rfl (Or.inr rfl) dX4_outside_15 ⟨(bI_t (by omega)), rfl⟩

set_option maxRecDepth 100000 in
set_option maxHeartbeats 4000000 in
theorem c_X4_isNone (l : Launch) (D : va_G) (yc : Nat → ClassId) (t1 t2 : Nat) (A : Nat → Prop) {M : Type} (ww : M → va_W) (g : M) (i n : Int) (hi : R32 i) (hn : R32 n) : Ci l yX4_isNone wsX4_isNone { frames := 0, cells := 0, slots := 0, locals := 0 } D yc t1 t2 A ww [.int (iI (i)), .int (iI (n))] g (fun r9 g' => r9 = (bI (i < 0 ∨ n ≤ i)) ∧ g' = g) := by
  refine start_i (cc := cX4_isNone) (nL := 2) (ret := (some .boolean)) (own := RX4) (by decide +kernel) rfl rfl (Nat.le_of_ble_eq_true rfl) ?_
  intro p e s m9 below meth c9 C
  refine v_lv (lv' := [(0, .int (iI (i))), (1, .int (iI (n)))]) rfl ?_
  refine v_iload_n C 0 dX4_isNone_0 rfl ?_
  refine v_if_lt (tgt := 9) C dX4_isNone_1 (by decide) (by omega) (fun c1 => ?_) (fun c1 => ?_)
  · skip
    refine v_iconst C dX4_isNone_9 ?_
    refine v_goto (tgt := 14) C dX4_isNone_10 (by decide) ?_
    exact v_ret_z C rfl (Or.inr rfl) dX4_isNone_14 ⟨(bI_t (by omega)), rfl⟩
  · skip
    refine v_iload_n C 0 dX4_isNone_4 rfl ?_
    refine v_iload_n C 1 dX4_isNone_5 rfl ?_
    refine v_icmp_lt (tgt := 13) C dX4_isNone_6 (by decide) (by omega) (by omega) (fun c6 => ?_) (fun c6 => ?_)
    · skip
      refine v_iconst C dX4_isNone_13 ?_
      exact v_ret_z C rfl (Or.inl rfl) dX4_isNone_14 ⟨(bI_f (by omega)), rfl⟩
    · skip
      refine v_iconst C dX4_isNone_9 ?_
      refine v_goto (tgt := 14) C dX4_isNone_10 (by decide) ?_
      exact v_ret_z C rfl (Or.inr rfl) dX4_isNone_14 ⟨(bI_t (by omega)), rfl⟩

set_option maxRecDepth 100000 in
set_option maxHeartbeats 4000000 in
theorem c_X4_isNoFarm (l : Launch) (D : va_G) (yc : Nat → ClassId) (t1 t2 : Nat) (A : Nat → Prop) {M : Type} (ww : M → va_W) (g : M) (f : Int) (hf : R32 f) : Ci l yX4_isNoFarm wsX4_isNoFarm { frames := 1, cells := 0, slots := 0, locals := 22 } D yc t1 t2 A ww [.int (iI (f))] g (fun r9 g' => r9 = (bI (f < 0 ∨ 1 < f)) ∧ g' = g) := by
  refine start_i (cc := cX4_isNoFarm) (nL := 1) (ret := (some .boolean)) (own := RX4) (by decide +kernel) rfl rfl (Nat.le_of_ble_eq_true rfl) ?_
  intro p e s m9 below meth c9 C
  refine v_lv (lv' := [(0, .int (iI (f)))]) rfl ?_
  refine v_iload_n C 0 dX4_isNoFarm_0 rfl ?_
  refine v_iconst C dX4_isNoFarm_1 ?_
  refine v_iconst C dX4_isNoFarm_2 ?_
  refine v_cS_i C (As := [.int (iI (f)), .int (iI (0)), .int (iI (1))]) (rest := []) (c_X4_outside l D yc t1 t2 A ww g f 0 1 (by omega) (by omega) (by omega)) (va_cwS 3 C.hts gX4_isNoFarm_X4_outside rfl rfl rfl (by decide +kernel) ⟨by decide, by decide⟩) rfl rfl (Nat.le_of_ble_eq_true rfl) dX4_isNoFarm_3 ?_
  intro r9 g9 h9
  rw [h9.1, h9.2]
  clear h9 g9 r9
  try dsimp only
  exact v_ret_z C rfl (bI_01 _) dX4_isNoFarm_6 ⟨rfl, rfl⟩

set_option maxRecDepth 100000 in
set_option maxHeartbeats 4000000 in
theorem c_X4_isNoDay (l : Launch) (D : va_G) (yc : Nat → ClassId) (t1 t2 : Nat) (A : Nat → Prop) {M : Type} (ww : M → va_W) (g : M) (d : Int) (hd : R32 d) : Ci l yX4_isNoDay wsX4_isNoDay { frames := 1, cells := 0, slots := 0, locals := 22 } D yc t1 t2 A ww [.int (iI (d))] g (fun r9 g' => r9 = (bI (d < 0 ∨ 999 < d)) ∧ g' = g) := by
  refine start_i (cc := cX4_isNoDay) (nL := 1) (ret := (some .boolean)) (own := RX4) (by decide +kernel) rfl rfl (Nat.le_of_ble_eq_true rfl) ?_
  intro p e s m9 below meth c9 C
  refine v_lv (lv' := [(0, .int (iI (d)))]) rfl ?_
  refine v_iload_n C 0 dX4_isNoDay_0 rfl ?_
  refine v_iconst C dX4_isNoDay_1 ?_
  refine v_sipush C dX4_isNoDay_2 (by decide) ?_
  refine v_cS_i C (As := [.int (iI (d)), .int (iI (0)), .int (iI (999))]) (rest := []) (c_X4_outside l D yc t1 t2 A ww g d 0 999 (by omega) (by omega) (by omega)) (va_cwS 3 C.hts gX4_isNoDay_X4_outside rfl rfl rfl (by decide +kernel) ⟨by decide, by decide⟩) rfl rfl (Nat.le_of_ble_eq_true rfl) dX4_isNoDay_5 ?_
  intro r9 g9 h9
  rw [h9.1, h9.2]
  clear h9 g9 r9
  try dsimp only
  exact v_ret_z C rfl (bI_01 _) dX4_isNoDay_8 ⟨rfl, rfl⟩

set_option maxRecDepth 100000 in
set_option maxHeartbeats 4000000 in
theorem c_X4_isNoReading (l : Launch) (D : va_G) (yc : Nat → ClassId) (t1 t2 : Nat) (A : Nat → Prop) {M : Type} (ww : M → va_W) (g : M) (q : Int) (hq : R32 q) : Ci l yX4_isNoReading wsX4_isNoReading { frames := 1, cells := 0, slots := 0, locals := 22 } D yc t1 t2 A ww [.int (iI (q))] g (fun r9 g' => r9 = (bI (q < 0 ∨ 3 < q)) ∧ g' = g) := by
  refine start_i (cc := cX4_isNoReading) (nL := 1) (ret := (some .boolean)) (own := RX4) (by decide +kernel) rfl rfl (Nat.le_of_ble_eq_true rfl) ?_
  intro p e s m9 below meth c9 C
  refine v_lv (lv' := [(0, .int (iI (q)))]) rfl ?_
  refine v_iload_n C 0 dX4_isNoReading_0 rfl ?_
  refine v_iconst C dX4_isNoReading_1 ?_
  refine v_iconst C dX4_isNoReading_2 ?_
  refine v_cS_i C (As := [.int (iI (q)), .int (iI (0)), .int (iI (3))]) (rest := []) (c_X4_outside l D yc t1 t2 A ww g q 0 3 (by omega) (by omega) (by omega)) (va_cwS 3 C.hts gX4_isNoReading_X4_outside rfl rfl rfl (by decide +kernel) ⟨by decide, by decide⟩) rfl rfl (Nat.le_of_ble_eq_true rfl) dX4_isNoReading_3 ?_
  intro r9 g9 h9
  rw [h9.1, h9.2]
  clear h9 g9 r9
  try dsimp only
  exact v_ret_z C rfl (bI_01 _) dX4_isNoReading_6 ⟨rfl, rfl⟩

set_option maxRecDepth 100000 in
set_option maxHeartbeats 4000000 in
theorem c_X2_farmOfLetter (l : Launch) (D : va_G) (yc : Nat → ClassId) (t1 t2 : Nat) (A : Nat → Prop) {M : Type} (ww : M → va_W) (g : M) (ch : Int) (hch : R32 ch) : Ci l yX2_farmOfLetter wsX2_farmOfLetter { frames := 0, cells := 0, slots := 0, locals := 0 } D yc t1 t2 A ww [.int (iI (ch))] g (fun r9 g' => r9 = (iI (if ch = 97 then 0 else if ch = 98 then 1 else -9)) ∧ g' = g) := by
  refine start_i (cc := cX2_farmOfLetter) (nL := 1) (ret := (some .int)) (own := RX2) (by decide +kernel) rfl rfl (Nat.le_of_ble_eq_true rfl) ?_
  intro p e s m9 below meth c9 C
  refine v_lv (lv' := [(0, .int (iI (ch)))]) rfl ?_
  refine v_iload_n C 0 dX2_farmOfLetter_0 rfl ?_
  refine v_bipush C dX2_farmOfLetter_1 (by decide) ?_
  refine v_icmp_ne (tgt := 10) C dX2_farmOfLetter_3 (by decide) (by omega) (by omega) (fun c3 => ?_) (fun c3 => ?_)
  · skip
    refine v_iload_n C 0 dX2_farmOfLetter_10 rfl ?_
    refine v_bipush C dX2_farmOfLetter_11 (by decide) ?_
    refine v_icmp_ne (tgt := 20) C dX2_farmOfLetter_13 (by decide) (by omega) (by omega) (fun c13 => ?_) (fun c13 => ?_)
    · skip
      refine v_bipush C dX2_farmOfLetter_20 (by decide) ?_
      exact v_ret_i C rfl dX2_farmOfLetter_22 ⟨(by simp [*]), rfl⟩
    · skip
      refine v_iconst C dX2_farmOfLetter_16 ?_
      refine v_goto (tgt := 22) C dX2_farmOfLetter_17 (by decide) ?_
      exact v_ret_i C rfl dX2_farmOfLetter_22 ⟨(by simp [*]), rfl⟩
  · skip
    refine v_iconst C dX2_farmOfLetter_6 ?_
    refine v_goto (tgt := 22) C dX2_farmOfLetter_7 (by decide) ?_
    exact v_ret_i C rfl dX2_farmOfLetter_22 ⟨(by simp [*]), rfl⟩

set_option maxRecDepth 100000 in
set_option maxHeartbeats 4000000 in
theorem c_X3_isMissing (l : Launch) (D : va_G) (yc : Nat → ClassId) (t1 t2 : Nat) (a : Int → Nat) (A : Nat → Prop) (g : Mm) (r : Int) (hr : 0 ≤ r ∧ r < 10) (hz : R32 (g (6 + r) 1)) : Ci l yX3_isMissing wsX3_isMissing { frames := 0, cells := 0, slots := 0, locals := 0 } D yc t1 t2 A (cw a yc) [.ref (a (6 + r))] g (fun r9 g' => r9 = (bI (g (6 + r) 1 < 0)) ∧ g' = g) := by
  refine start_i (cc := cX3_isMissing) (nL := 1) (ret := (some .boolean)) (own := RX3) (by decide +kernel) rfl rfl (Nat.le_of_ble_eq_true rfl) ?_
  intro p e s m9 below meth c9 C
  have wf9 : Cond.fieldLink RX3 9 (TX3 1).1 (TX3 1).2.1 (TX3 1).2.2.1 ∈ wsX3_isMissing := by decide +kernel
  have hinX3 : ∀ w ∈ u_ws RX3 TX3 2, w ∈ wsX3_isMissing := by decide +kernel
  refine v_lv (lv' := [(0, .ref (a (6 + r)))]) rfl ?_
  refine v_aload_n C 0 dX3_isMissing_0 rfl ?_
  refine v_getf C (by omega) (by omega) (ct_row (by omega) (by omega)) rfl 1 (by decide) wf9 hinX3 rfl dX3_isMissing_1 ?_
  refine v_if_ge (tgt := 11) C dX3_isMissing_4 (by decide) (by omega) (fun c4 => ?_) (fun c4 => ?_)
  · skip
    refine v_iconst C dX3_isMissing_11 ?_
    exact v_ret_z C rfl (Or.inl rfl) dX3_isMissing_12 ⟨(bI_f (by omega)), rfl⟩
  · skip
    refine v_iconst C dX3_isMissing_7 ?_
    refine v_goto (tgt := 12) C dX3_isMissing_8 (by decide) ?_
    exact v_ret_z C rfl (Or.inr rfl) dX3_isMissing_12 ⟨(bI_t (by omega)), rfl⟩

set_option maxRecDepth 100000 in
set_option maxHeartbeats 4000000 in
theorem c_X3_has (l : Launch) (D : va_G) (yc : Nat → ClassId) (t1 t2 : Nat) (a : Int → Nat) (A : Nat → Prop) (g : Mm) (r i : Int) (hr : 0 ≤ r ∧ r < 10) (hi : R32 i) (hz : R32 (g (6 + r) 1)) : Ci l yX3_has wsX3_has { frames := 0, cells := 0, slots := 0, locals := 0 } D yc t1 t2 A (cw a yc) [.ref (a (6 + r)), .int (iI (i))] g (fun r9 g' => r9 = (bI (0 ≤ i ∧ i < g (6 + r) 1)) ∧ g' = g) := by
  refine start_i (cc := cX3_has) (nL := 2) (ret := (some .boolean)) (own := RX3) (by decide +kernel) rfl rfl (Nat.le_of_ble_eq_true rfl) ?_
  intro p e s m9 below meth c9 C
  have wf9 : Cond.fieldLink RX3 9 (TX3 1).1 (TX3 1).2.1 (TX3 1).2.2.1 ∈ wsX3_has := by decide +kernel
  have hinX3 : ∀ w ∈ u_ws RX3 TX3 2, w ∈ wsX3_has := by decide +kernel
  refine v_lv (lv' := [(0, .ref (a (6 + r))), (1, .int (iI (i)))]) rfl ?_
  refine v_iload_n C 1 dX3_has_0 rfl ?_
  refine v_if_lt (tgt := 16) C dX3_has_1 (by decide) (by omega) (fun c1 => ?_) (fun c1 => ?_)
  · skip
    refine v_iconst C dX3_has_16 ?_
    exact v_ret_z C rfl (Or.inl rfl) dX3_has_17 ⟨(bI_f (by omega)), rfl⟩
  · skip
    refine v_iload_n C 1 dX3_has_4 rfl ?_
    refine v_aload_n C 0 dX3_has_5 rfl ?_
    refine v_getf C (by omega) (by omega) (ct_row (by omega) (by omega)) rfl 1 (by decide) wf9 hinX3 rfl dX3_has_6 ?_
    refine v_icmp_ge (tgt := 16) C dX3_has_9 (by decide) (by omega) (by omega) (fun c9 => ?_) (fun c9 => ?_)
    · skip
      refine v_iconst C dX3_has_16 ?_
      exact v_ret_z C rfl (Or.inl rfl) dX3_has_17 ⟨(bI_f (by omega)), rfl⟩
    · skip
      refine v_iconst C dX3_has_12 ?_
      refine v_goto (tgt := 17) C dX3_has_13 (by decide) ?_
      exact v_ret_z C rfl (Or.inr rfl) dX3_has_17 ⟨(bI_t (by omega)), rfl⟩

set_option maxRecDepth 100000 in
set_option maxHeartbeats 4000000 in
theorem c_X1_isMissing (l : Launch) (D : va_G) (yc : Nat → ClassId) (t1 t2 : Nat) (a : Int → Nat) (A : Nat → Prop) (g : Mm) (f : Int) (F : Int → Int) (hf : 0 ≤ f ∧ f < 5) (HF : FR g f F) (HI : FI F) : Ci l yX1_isMissing wsX1_isMissing { frames := 0, cells := 0, slots := 0, locals := 0 } D yc t1 t2 A (cw a yc) [.ref (a (26 + f))] g (fun r9 g' => r9 = (bI (F 0 = 0)) ∧ g' = g) := by
  refine start_i (cc := cX1_isMissing) (nL := 1) (ret := (some .boolean)) (own := RX1) (by decide +kernel) rfl rfl (Nat.le_of_ble_eq_true rfl) ?_
  intro p e s m9 below meth c9 C
  have wf31 : Cond.fieldLink RX1 31 (TX1 7).1 (TX1 7).2.1 (TX1 7).2.2.1 ∈ wsX1_isMissing := by decide +kernel
  have hinX1 : ∀ w ∈ u_ws RX1 TX1 11, w ∈ wsX1_isMissing := by decide +kernel
  have hn := HI.n
  refine v_lv (lv' := [(0, .ref (a (26 + f)))]) rfl ?_
  refine v_aload_n C 0 dX1_isMissing_0 rfl ?_
  refine v_getf C (by omega) (by omega) (ct_farm (by omega) (by omega)) rfl 7 (by decide) wf31 hinX1 rfl dX1_isMissing_1 ?_
  refine v_st (st' := [.int (iI (F 0))]) (by rw [HF.bc]) ?_
  refine v_if_ne (tgt := 11) C dX1_isMissing_4 (by decide) (by omega) (fun c4 => ?_) (fun c4 => ?_)
  · skip
    refine v_iconst C dX1_isMissing_11 ?_
    exact v_ret_z C rfl (Or.inl rfl) dX1_isMissing_12 ⟨(bI_f (by omega)), rfl⟩
  · skip
    refine v_iconst C dX1_isMissing_7 ?_
    refine v_goto (tgt := 12) C dX1_isMissing_8 (by decide) ?_
    exact v_ret_z C rfl (Or.inr rfl) dX1_isMissing_12 ⟨(bI_t (by omega)), rfl⟩

set_option maxRecDepth 100000 in
set_option maxHeartbeats 4000000 in
theorem c_X1_farmOn (l : Launch) (D : va_G) (yc : Nat → ClassId) (t1 t2 : Nat) (a : Int → Nat) (A : Nat → Prop) (g : Mm) (f d : Int) (F : Int → Int) (hf : 0 ≤ f ∧ f < 5) (HF : FR g f F) (HI : FI F) (ht : 0 < F 1) (hd : 0 ≤ d ∧ d < 2147483648) : Ci l yX1_farmOn wsX1_farmOn { frames := 0, cells := 0, slots := 0, locals := 0 } D yc t1 t2 A (cw a yc) [.ref (a (26 + f)), .int (iI (d))] g (fun r9 g' => r9 = (iI (fOn F d)) ∧ g' = g) := by
  refine start_i (cc := cX1_farmOn) (nL := 2) (ret := (some .int)) (own := RX1) (by decide +kernel) rfl rfl (Nat.le_of_ble_eq_true rfl) ?_
  intro p e s m9 below meth c9 C
  have wf35 : Cond.fieldLink RX1 35 (TX1 5).1 (TX1 5).2.1 (TX1 5).2.2.1 ∈ wsX1_farmOn := by decide +kernel
  have hinX1 : ∀ w ∈ u_ws RX1 TX1 11, w ∈ wsX1_farmOn := by decide +kernel
  have wf9 : Cond.fieldLink RX1 9 (TX1 0).1 (TX1 0).2.1 (TX1 0).2.2.1 ∈ wsX1_farmOn := by decide +kernel
  have hn := HI.n
  have hm := emd (d := d) ht
  refine v_lv (lv' := [(0, .ref (a (26 + f))), (1, .int (iI (d)))]) rfl ?_
  refine v_iload_n C 1 dX1_farmOn_0 rfl ?_
  refine v_if_lt (tgt := 12) C dX1_farmOn_1 (by decide) (by omega) (fun c1 => ?_) (fun c1 => ?_)
  · exact absurd c1 (by omega)
  · skip
    refine v_aload_n C 0 dX1_farmOn_4 rfl ?_
    refine v_getf C (by omega) (by omega) (ct_farm (by omega) (by omega)) rfl 5 (by decide) wf35 hinX1 rfl dX1_farmOn_5 ?_
    refine v_st (st' := [.int (iI (F 1))]) (by rw [HF.tc]) ?_
    refine v_iconst C dX1_farmOn_8 ?_
    refine v_icmp_ge (tgt := 14) C dX1_farmOn_9 (by decide) (by omega) (by omega) (fun c9 => ?_) (fun c9 => ?_)
    · skip
      refine v_aload_n C 0 dX1_farmOn_14 rfl ?_
      refine v_getf C (by omega) (by omega) (ct_farm (by omega) (by omega)) rfl 0 (by decide) wf9 hinX1 rfl dX1_farmOn_15 ?_
      refine v_iload_n C 1 dX1_farmOn_18 rfl ?_
      refine v_aload_n C 0 dX1_farmOn_19 rfl ?_
      refine v_getf C (by omega) (by omega) (ct_farm (by omega) (by omega)) rfl 5 (by decide) wf35 hinX1 rfl dX1_farmOn_20 ?_
      refine v_st (st' := [.int (iI (F 1)), .int (iI (d)), .ref (a (31 + f))]) (by rw [HF.tc]) ?_
      refine v_irem C dX1_farmOn_23 (by omega) (by omega) (by omega) (by omega) ?_
      refine v_iaload C (by omega) (by omega) (ct_turns (by omega) (by omega)) (by omega) (by omega) (by decide) dX1_farmOn_24 ?_
      refine v_st (st' := [.int (iI (F (6 + d % F 1)))]) (by rw [HF.tn hm.1 hm.2]) ?_
      exact v_ret_i C rfl dX1_farmOn_25 ⟨rfl, rfl⟩
    · exact absurd c9 (by omega)

set_option maxRecDepth 100000 in
set_option maxHeartbeats 4000000 in
theorem c_X1_milkOn (l : Launch) (D : va_G) (yc : Nat → ClassId) (t1 t2 : Nat) (a : Int → Nat) (A : Nat → Prop) (g : Mm) (f d : Int) (F : Int → Int) (hf : 0 ≤ f ∧ f < 5) (HF : FR g f F) (HI : FI F) (ht : 0 < F 2) (hd : 0 ≤ d ∧ d < 2147483648) : Ci l yX1_milkOn wsX1_milkOn { frames := 0, cells := 0, slots := 0, locals := 0 } D yc t1 t2 A (cw a yc) [.ref (a (26 + f)), .int (iI (d))] g (fun r9 g' => r9 = (iI (mOn F d)) ∧ g' = g) := by
  refine start_i (cc := cX1_milkOn) (nL := 2) (ret := (some .int)) (own := RX1) (by decide +kernel) rfl rfl (Nat.le_of_ble_eq_true rfl) ?_
  intro p e s m9 below meth c9 C
  have wf38 : Cond.fieldLink RX1 38 (TX1 6).1 (TX1 6).2.1 (TX1 6).2.2.1 ∈ wsX1_milkOn := by decide +kernel
  have hinX1 : ∀ w ∈ u_ws RX1 TX1 11, w ∈ wsX1_milkOn := by decide +kernel
  have wf15 : Cond.fieldLink RX1 15 (TX1 1).1 (TX1 1).2.1 (TX1 1).2.2.1 ∈ wsX1_milkOn := by decide +kernel
  have hn := HI.n
  have hm := emd (d := d) ht
  refine v_lv (lv' := [(0, .ref (a (26 + f))), (1, .int (iI (d)))]) rfl ?_
  refine v_iload_n C 1 dX1_milkOn_0 rfl ?_
  refine v_if_lt (tgt := 12) C dX1_milkOn_1 (by decide) (by omega) (fun c1 => ?_) (fun c1 => ?_)
  · exact absurd c1 (by omega)
  · skip
    refine v_aload_n C 0 dX1_milkOn_4 rfl ?_
    refine v_getf C (by omega) (by omega) (ct_farm (by omega) (by omega)) rfl 6 (by decide) wf38 hinX1 rfl dX1_milkOn_5 ?_
    refine v_st (st' := [.int (iI (F 2))]) (by rw [HF.mc]) ?_
    refine v_iconst C dX1_milkOn_8 ?_
    refine v_icmp_ge (tgt := 14) C dX1_milkOn_9 (by decide) (by omega) (by omega) (fun c9 => ?_) (fun c9 => ?_)
    · skip
      refine v_aload_n C 0 dX1_milkOn_14 rfl ?_
      refine v_getf C (by omega) (by omega) (ct_farm (by omega) (by omega)) rfl 1 (by decide) wf15 hinX1 rfl dX1_milkOn_15 ?_
      refine v_iload_n C 1 dX1_milkOn_18 rfl ?_
      refine v_aload_n C 0 dX1_milkOn_19 rfl ?_
      refine v_getf C (by omega) (by omega) (ct_farm (by omega) (by omega)) rfl 6 (by decide) wf38 hinX1 rfl dX1_milkOn_20 ?_
      refine v_st (st' := [.int (iI (F 2)), .int (iI (d)), .ref (a (36 + f))]) (by rw [HF.mc]) ?_
      refine v_irem C dX1_milkOn_23 (by omega) (by omega) (by omega) (by omega) ?_
      refine v_iaload C (by omega) (by omega) (ct_milks (by omega) (by omega)) (by omega) (by omega) (by decide) dX1_milkOn_24 ?_
      refine v_st (st' := [.int (iI (F (14 + d % F 2)))]) (by rw [HF.mk hm.1 hm.2]) ?_
      exact v_ret_i C rfl dX1_milkOn_25 ⟨rfl, rfl⟩
    · exact absurd c9 (by omega)

set_option maxRecDepth 100000 in
set_option maxHeartbeats 4000000 in
theorem c_X1_leadOn (l : Launch) (D : va_G) (yc : Nat → ClassId) (t1 t2 : Nat) (a : Int → Nat) (A : Nat → Prop) (g : Mm) (f d : Int) (F : Int → Int) (hf : 0 ≤ f ∧ f < 5) (HF : FR g f F) (HI : FI F) (ht : 0 < F 1 ∧ 0 < F 2) (hd : 0 ≤ d ∧ d < 2147483648) : Ci l yX1_leadOn wsX1_leadOn { frames := 1, cells := 0, slots := 0, locals := 21 } D yc t1 t2 A (cw a yc) [.ref (a (26 + f)), .int (iI (d))] g (fun r9 g' => r9 = (iI (if fOn F d = 0 then mOn F d else -mOn F d)) ∧ g' = g) := by
  refine start_i (cc := cX1_leadOn) (nL := 2) (ret := (some .int)) (own := RX1) (by decide +kernel) rfl rfl (Nat.le_of_ble_eq_true rfl) ?_
  intro p e s m9 below meth c9 C
  have hn := HI.n
  have h01 := fOn01 HI ht.1 d
  refine v_lv (lv' := [(0, .ref (a (26 + f))), (1, .int (iI (d)))]) rfl ?_
  refine v_aload_n C 0 dX1_leadOn_0 rfl ?_
  refine v_iload_n C 1 dX1_leadOn_1 rfl ?_
  refine v_cV_i C (As := [.int (iI (d))]) (rest := []) (c_X1_farmOn l D yc t1 t2 a A g f d F (by omega) HF HI (by omega) (by omega)) (cwV 1 C.hts gX1_leadOn_X1_farmOn rfl rfl rfl (by decide +kernel) ⟨by decide, by decide⟩) (fun H hP => va_recv C.hK hP (ci := 1) (q0 := (26 + f : Int).toNat) rfl (wo_is (by omega) (by omega) (ct_farm (by omega) (by omega)))) rfl rfl (Nat.le_of_ble_eq_true rfl) dX1_leadOn_2 ?_
  intro r9 g9 h9
  rw [h9.1, h9.2]
  clear h9 g9 r9
  try dsimp only
  refine v_if_ne (tgt := 16) C dX1_leadOn_5 (by decide) (by omega) (fun c5 => ?_) (fun c5 => ?_)
  · skip
    refine v_aload_n C 0 dX1_leadOn_16 rfl ?_
    refine v_iload_n C 1 dX1_leadOn_17 rfl ?_
    refine v_cV_i C (As := [.int (iI (d))]) (rest := []) (c_X1_milkOn l D yc t1 t2 a A g f d F (by omega) HF HI (by omega) (by omega)) (cwV 1 C.hts gX1_leadOn_X1_milkOn rfl rfl rfl (by decide +kernel) ⟨by decide, by decide⟩) (fun H hP => va_recv C.hK hP (ci := 1) (q0 := (26 + f : Int).toNat) rfl (wo_is (by omega) (by omega) (ct_farm (by omega) (by omega)))) rfl rfl (Nat.le_of_ble_eq_true rfl) dX1_leadOn_18 ?_
    intro r9 g9 h9
    rw [h9.1, h9.2]
    clear h9 g9 r9
    try dsimp only
    refine v_ineg C dX1_leadOn_21 ?_
    exact v_ret_i C rfl dX1_leadOn_22 ⟨(by simp [*]), rfl⟩
  · skip
    refine v_aload_n C 0 dX1_leadOn_8 rfl ?_
    refine v_iload_n C 1 dX1_leadOn_9 rfl ?_
    refine v_cV_i C (As := [.int (iI (d))]) (rest := []) (c_X1_milkOn l D yc t1 t2 a A g f d F (by omega) HF HI (by omega) (by omega)) (cwV 1 C.hts gX1_leadOn_X1_milkOn rfl rfl rfl (by decide +kernel) ⟨by decide, by decide⟩) (fun H hP => va_recv C.hK hP (ci := 1) (q0 := (26 + f : Int).toNat) rfl (wo_is (by omega) (by omega) (ct_farm (by omega) (by omega)))) rfl rfl (Nat.le_of_ble_eq_true rfl) dX1_leadOn_10 ?_
    intro r9 g9 h9
    rw [h9.1, h9.2]
    clear h9 g9 r9
    try dsimp only
    refine v_goto (tgt := 22) C dX1_leadOn_13 (by decide) ?_
    exact v_ret_i C rfl dX1_leadOn_22 ⟨(by simp [*]), rfl⟩
