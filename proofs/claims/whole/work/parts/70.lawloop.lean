/-! The law's loop. -/
set_option maxRecDepth 100000 in
set_option maxHeartbeats 8000000 in
theorem law_step {p : Program} {l : Launch} {e : Env} {s : State} {m : MethodId} {below : List Frame} {meth : Method} {c : Code} {ret9 : Option FieldType} {D : va_G} {yc : Nat → ClassId} {t1 t2 : Nat} {A : Nat → Prop} {Q : State → Prop} {a b : Int → Nat} {g h : Mm} {b0 L : Nat} {xs : Nat → Int32} (C : VC p s m #[Value.ref b0] meth c cL_law 4 wsL_law RL ret9 D yc t1 t2 A (pW a b yc)) (hX : va_X b0 L xs s s.heap) (hbl : b0 < s.heap.size) (hbA : ¬ A b0) (hL : L ≤ 384) (hA : ∀ q, s.heap.size ≤ q → A q) (fin : ∀ (H9 : Heap) (locs : List Loc) (ls : Array Slot) (kc ks : Nat), va_S A s.heap H9 locs → kc ≤ 600000 → ks ≤ 7302250 → W p l e room_1 s m #[Value.ref b0] below meth c H9 locs kc ks Q (F0 m 1460 ls [.int (iI 1)])) (k : Nat) (hk65 : k ≤ 65) (IH : 6 * (k : Int) + 6 ≤ L → ∀ g' h' : Mm, Rel g' h' → VX p l e room_1 s m #[Value.ref b0] below meth c 4 (98 + k + 1) (2485 + 8 * k + 8) D A (pW a b yc) Q 18 [(0, .ref b0), (1, .ref (a 0)), (2, .ref (b 0)), (3, .int (iI (6 * ((k + 1 : Nat) : Int))))] [] (g', h')) (H : Rel g h) : VX p l e room_1 s m #[Value.ref b0] below meth c 4 (98 + k) (2485 + 8 * k) D A (pW a b yc) Q 18 [(0, .ref b0), (1, .ref (a 0)), (2, .ref (b 0)), (3, .int (iI (6 * (k : Int))))] [] (g, h) := by
  have hk0 : 98 + k + 0 ≤ room_1.cells ∧ 2485 + 8 * k + 0 ≤ room_1.slots := ⟨by show 98 + k + 0 ≤ 600000; omega, by show 2485 + 8 * k + 0 ≤ 7302250; omega⟩
  have hk8 : 98 + k + 1 ≤ room_1.cells ∧ 2485 + 8 * k + 8 ≤ room_1.slots := ⟨by show 98 + k + 1 ≤ 600000; omega, by show 2485 + 8 * k + 8 ≤ 7302250; omega⟩
  have hk9 : 98 + k + 1 + 0 ≤ room_1.cells ∧ 2485 + 8 * k + 8 + 0 ≤ room_1.slots := ⟨by show 98 + k + 1 + 0 ≤ 600000; omega, by show 2485 + 8 * k + 8 + 0 ≤ 7302250; omega⟩
  refine x_iload_n C 3 dL_law_18 rfl ?_
  refine x_aload_n C 0 dL_law_19 rfl ?_
  refine y_sl C hX hbl hbA dL_law_20 ?_
  refine x_bipush C dL_law_21 (by decide) ?_
  refine x_isub C dL_law_23 ?_
  refine x_icmp_gt (tgt := 1459) C dL_law_24 (by decide) (by omega) (by omega) (fun h9 => ?_) (fun h9 => ?_)
  · refine x_iconst C dL_law_1459 ?_
    exact fun H9 locs ls hP hS hl => fin H9 locs ls _ _ hS (by omega) (by omega)
  have K : ∀ g' h' : Mm, Rel g' h' → VX p l e room_1 s m #[Value.ref b0] below meth c 4 (98 + k + 1) (2485 + 8 * k + 8) D A (pW a b yc) Q 1453 [(0, .ref b0), (1, .ref (a 0)), (2, .ref (b 0)), (3, .int (iI (6 * (k : Int))))] [] (g', h') := by
    intro g' h' hR
    refine x_iinc (z' := 6 * ((k + 1 : Nat) : Int)) (lv' := [(3, .int (iI (6 * ((k + 1 : Nat) : Int)))), (0, .ref b0), (1, .ref (a 0)), (2, .ref (b 0))]) C 3 dL_law_1453 rfl (by omega) (by decide) rfl ?_
    refine x_sub (lv' := [(0, .ref b0), (1, .ref (a 0)), (2, .ref (b 0)), (3, .int (iI (6 * ((k + 1 : Nat) : Int))))]) [1, 2, 3, 0] rfl ?_
    refine x_goto (tgt := 18) C dL_law_1456 (by decide) ?_
    exact IH (by omega) g' h' hR
  have K0 : ∀ g' h' : Mm, Rel g' h' → VX p l e room_1 s m #[Value.ref b0] below meth c 4 (98 + k) (2485 + 8 * k) D A (pW a b yc) Q 1453 [(0, .ref b0), (1, .ref (a 0)), (2, .ref (b 0)), (3, .int (iI (6 * (k : Int))))] [] (g', h') := fun g' h' hR => x_widen (by omega) (by omega) (K g' h' hR)
  refine x_aload_n C 0 dL_law_27 rfl ?_
  refine x_iload_n C 3 dL_law_28 rfl ?_
  refine y_sld C hX hbl hbA (by omega) (by omega) hL dL_law_29 ?_
  refine x_bipush C dL_law_30 (by decide) ?_
  refine x_iand (z := iI (an2 (xv xs (6 * (k : Int))) 63)) C dL_law_32 (iI_of _).symm ?_
  have hr9 : R32 (an2 (xv xs (6 * (k : Int))) 63) := iI_rng _
  generalize an2 (xv xs (6 * (k : Int))) 63 = y9 at hr9 ⊢
  rcases Classical.em (y9 < 0 ∨ 45 < y9) with h8 | h8
  · exact x_tout (tgt := 1453) C dL_law_33 hr9 h8 (by decide) (K0 g h H)
  obtain ⟨n, hn⟩ := Int.eq_ofNat_of_zero_le (show 0 ≤ y9 by omega)
  have hn46 : n < 46 := by omega
  subst hn
  clear h8 hr9
  match n, hn46 with
  | 0, _ => exact x_tin (off := 199) (tgt := 232) C 0 dL_law_33 rfl (by decide) (by decide) (by decide) rfl (by decide) (lc_row C hX hbl hbA hL (by omega) (by omega) hk0 H K0)
  | 1, _ => exact x_tin (off := 232) (tgt := 265) C 1 dL_law_33 rfl (by decide) (by decide) (by decide) rfl (by decide) (lc_lay C hX hbl hbA hL (by omega) (by omega) hk0 H K0)
  | 2, _ => exact x_tin (off := 275) (tgt := 308) C 2 dL_law_33 rfl (by decide) (by decide) (by decide) rfl (by decide) (lc_at C hX hbl hbA hL (by omega) (by omega) hk0 H K0)
  | 3, _ => exact x_tin (off := 308) (tgt := 341) C 3 dL_law_33 rfl (by decide) (by decide) (by decide) rfl (by decide) (lc_tear C hX hbl hbA hL (by omega) (by omega) hk0 H K0)
  | 4, _ => exact x_tin (off := 331) (tgt := 364) C 4 dL_law_33 rfl (by decide) (by decide) (by decide) rfl (by decide) (lc_copy C hX hbl hbA hL (by omega) (by omega) hk0 H K0)
  | 5, _ => exact x_tin (off := 394) (tgt := 427) C 5 dL_law_33 rfl (by decide) (by decide) (by decide) rfl (by decide) (lc_mean C hX hbl hbA hL (by omega) (by omega) hk0 H K0)
  | 6, _ => exact x_tin (off := 417) (tgt := 450) C 6 dL_law_33 rfl (by decide) (by decide) (by decide) rfl (by decide) (lc_text C hX hbl hbA hL (by omega) (by omega) hk0 H K0)
  | 7, _ => exact x_tin (off := 450) (tgt := 483) C 7 dL_law_33 rfl (by decide) (by decide) (by decide) rfl (by decide) (lc_put C hX hbl hbA hL (by omega) (by omega) hk0 H K0)
  | 8, _ => exact x_tin (off := 493) (tgt := 526) C 8 dL_law_33 rfl (by decide) (by decide) (by decide) rfl (by decide) (lc_fault C hX hbl hbA hL (by omega) (by omega) hk0 H K0)
  | 9, _ => exact x_tin (off := 516) (tgt := 549) C 9 dL_law_33 rfl (by decide) (by decide) (by decide) rfl (by decide) (lc_farms C hX hbl hbA hL (by omega) (by omega) hk0 H K0)
  | 10, _ => exact x_tin (off := 539) (tgt := 572) C 10 dL_law_33 rfl (by decide) (by decide) (by decide) rfl (by decide) (lc_beast C hX hbl hbA hL (by omega) (by omega) hk0 H K0)
  | 11, _ => exact x_tin (off := 572) (tgt := 605) C 11 dL_law_33 rfl (by decide) (by decide) (by decide) rfl (by decide) (lc_mark C hX hbl hbA hL (by omega) (by omega) hk0 H K0)
  | 12, _ => exact x_tin (off := 605) (tgt := 638) C 12 dL_law_33 rfl (by decide) (by decide) (by decide) rfl (by decide) (lc_turn C hX hbl hbA hL (by omega) (by omega) hk0 H K0)
  | 13, _ => exact x_tin (off := 638) (tgt := 671) C 13 dL_law_33 rfl (by decide) (by decide) (by decide) rfl (by decide) (lc_day C hX hbl hbA hL (by omega) (by omega) hk0 H K0)
  | 14, _ => exact x_tin (off := 651) (tgt := 684) C 14 dL_law_33 rfl (by decide) (by decide) (by decide) rfl (by decide) (lc_drive C hX hbl hbA hL (by omega) (by omega) hk0 H K0)
  | 15, _ => exact x_tin (off := 674) (tgt := 707) C 15 dL_law_33 rfl (by decide) (by decide) (by decide) rfl (by decide) (lc_pay C hX hbl hbA hL (by omega) (by omega) hk0 H K0)
  | 16, _ => exact x_tin (off := 707) (tgt := 740) C 16 dL_law_33 rfl (by decide) (by decide) (by decide) rfl (by decide) (lc_undo C hX hbl hbA hL (by omega) (by omega) hk0 H K0)
  | 17, _ => exact x_tin (off := 730) (tgt := 763) C 17 dL_law_33 rfl (by decide) (by decide) (by decide) rfl (by decide) (lc_keep C hX hbl hbA hL (by omega) (by omega) hk0 H K0)
  | 18, _ => exact x_tin (off := 753) (tgt := 786) C 18 dL_law_33 rfl (by decide) (by decide) (by decide) rfl (by decide) (lc_on C hX hbl hbA hL (by omega) (by omega) hk0 H K0)
  | 19, _ => exact x_tin (off := 776) (tgt := 809) C 19 dL_law_33 rfl (by decide) (by decide) (by decide) rfl (by decide) (lc_where C hX hbl hbA hL (by omega) (by omega) hk0 H K0)
  | 20, _ => exact x_tin (off := 799) (tgt := 832) C 20 dL_law_33 rfl (by decide) (by decide) (by decide) rfl (by decide) (lc_milk C hX hbl hbA hL (by omega) (by omega) hk0 H K0)
  | 21, _ => exact x_tin (off := 842) (tgt := 875) C 21 dL_law_33 rfl (by decide) (by decide) (by decide) rfl (by decide) (lc_walks C hX hbl hbA hL (by omega) (by omega) hk0 H K0)
  | 22, _ => exact x_tin (off := 865) (tgt := 898) C 22 dL_law_33 rfl (by decide) (by decide) (by decide) rfl (by decide) (lc_out C hX hbl hbA hL (by omega) (by omega) hk0 H K0)
  | 23, _ => exact x_tin (off := 888) (tgt := 921) C 23 dL_law_33 rfl (by decide) (by decide) (by decide) rfl (by decide) (lc_round C hX hbl hbA hL (by omega) (by omega) hk0 H K0)
  | 24, _ => exact x_tin (off := 901) (tgt := 934) C 24 dL_law_33 rfl (by decide) (by decide) (by decide) rfl (by decide) (lc_best C hX hbl hbA hL (by omega) (by omega) hk0 H K0)
  | 25, _ => exact x_tin (off := 934) (tgt := 967) C 25 dL_law_33 rfl (by decide) (by decide) (by decide) rfl (by decide) (lc_even C hX hbl hbA hL (by omega) (by omega) hA hk8 hk9 H K)
  | 26, _ => exact x_tin (off := 947) (tgt := 980) C 26 dL_law_33 rfl (by decide) (by decide) (by decide) rfl (by decide) (lc_value C hX hbl hbA hL (by omega) (by omega) hk0 H K0)
  | 27, _ => exact x_tin (off := 980) (tgt := 1013) C 27 dL_law_33 rfl (by decide) (by decide) (by decide) rfl (by decide) (lc_fair C hX hbl hbA hL (by omega) (by omega) hk0 H K0)
  | 28, _ => exact x_tin (off := 993) (tgt := 1026) C 28 dL_law_33 rfl (by decide) (by decide) (by decide) rfl (by decide) (lc_ways C hX hbl hbA hL (by omega) (by omega) hk0 H K0)
  | 29, _ => exact x_tin (off := 1006) (tgt := 1039) C 29 dL_law_33 rfl (by decide) (by decide) (by decide) rfl (by decide) (lc_part C hX hbl hbA hL (by omega) (by omega) hk0 H K0)
  | 30, _ => exact x_tin (off := 1019) (tgt := 1052) C 30 dL_law_33 rfl (by decide) (by decide) (by decide) rfl (by decide) (lc_sum C hX hbl hbA hL (by omega) (by omega) hk0 H K0)
  | 31, _ => exact x_tin (off := 1032) (tgt := 1065) C 31 dL_law_33 rfl (by decide) (by decide) (by decide) rfl (by decide) (lc_heirs C hX hbl hbA hL (by omega) (by omega) hk0 H K0)
  | 32, _ => exact x_tin (off := 1045) (tgt := 1078) C 32 dL_law_33 rfl (by decide) (by decide) (by decide) rfl (by decide) (lc_calf C hX hbl hbA hL (by omega) (by omega) hk0 H K0)
  | 33, _ => exact x_tin (off := 1078) (tgt := 1111) C 33 dL_law_33 rfl (by decide) (by decide) (by decide) rfl (by decide) (lc_quarrel C hX hbl hbA hL (by omega) (by omega) hk0 H K0)
  | 34, _ => exact x_tin (off := 1121) (tgt := 1154) C 34 dL_law_33 rfl (by decide) (by decide) (by decide) rfl (by decide) (lc_bill C hX hbl hbA hL (by omega) (by omega) hk0 H K0)
  | 35, _ => exact x_tin (off := 1154) (tgt := 1187) C 35 dL_law_33 rfl (by decide) (by decide) (by decide) rfl (by decide) (lc_fits C hX hbl hbA hL (by omega) (by omega) hk0 H K0)
  | 36, _ => exact x_tin (off := 1187) (tgt := 1220) C 36 dL_law_33 rfl (by decide) (by decide) (by decide) rfl (by decide) (lc_sure C hX hbl hbA hL (by omega) (by omega) hk0 H K0)
  | 37, _ => exact x_tin (off := 1230) (tgt := 1263) C 37 dL_law_33 rfl (by decide) (by decide) (by decide) rfl (by decide) (lc_odds C hX hbl hbA hL (by omega) (by omega) hk0 H K0)
  | 38, _ => exact x_tin (off := 1273) (tgt := 1306) C 38 dL_law_33 rfl (by decide) (by decide) (by decide) rfl (by decide) (lc_lots C hX hbl hbA hL (by omega) (by omega) hk0 H K0)
  | 39, _ => exact x_tin (off := 1306) (tgt := 1339) C 39 dL_law_33 rfl (by decide) (by decide) (by decide) rfl (by decide) (lc_asked C hX hbl hbA hL (by omega) (by omega) hk0 H K0)
  | 40, _ => exact x_tin (off := 1319) (tgt := 1352) C 40 dL_law_33 rfl (by decide) (by decide) (by decide) rfl (by decide) (lc_upper C hX hbl hbA hL (by omega) (by omega) hk0 H K0)
  | 41, _ => exact x_tin (off := 1333) (tgt := 1366) C 41 dL_law_33 rfl (by decide) (by decide) (by decide) rfl (by decide) (lc_lower C hX hbl hbA hL (by omega) (by omega) hk0 H K0)
  | 42, _ => exact x_tin (off := 1347) (tgt := 1380) C 42 dL_law_33 rfl (by decide) (by decide) (by decide) rfl (by decide) (lc_count C hX hbl hbA hL (by omega) (by omega) hk0 H K0)
  | 43, _ => exact x_tin (off := 1370) (tgt := 1403) C 43 dL_law_33 rfl (by decide) (by decide) (by decide) rfl (by decide) (lc_finding C hX hbl hbA hL (by omega) (by omega) hk0 H K0)
  | 44, _ => exact x_tin (off := 1383) (tgt := 1416) C 44 dL_law_33 rfl (by decide) (by decide) (by decide) rfl (by decide) (lc_findings C hX hbl hbA hL (by omega) (by omega) hk0 H K0)
  | 45, _ => exact x_tin (off := 1406) (tgt := 1439) C 45 dL_law_33 rfl (by decide) (by decide) (by decide) rfl (by decide) (lc_digest C hX hbl hbA hL (by omega) (by omega) hk0 H K0)
  | n + 46, z => exact absurd z (by omega)
theorem law_loop {p : Program} {l : Launch} {e : Env} {s : State} {m : MethodId} {below : List Frame} {meth : Method} {c : Code} {ret9 : Option FieldType} {D : va_G} {yc : Nat → ClassId} {t1 t2 : Nat} {A : Nat → Prop} {Q : State → Prop} {a b : Int → Nat} {b0 L : Nat} {xs : Nat → Int32} (C : VC p s m #[Value.ref b0] meth c cL_law 4 wsL_law RL ret9 D yc t1 t2 A (pW a b yc)) (hX : va_X b0 L xs s s.heap) (hbl : b0 < s.heap.size) (hbA : ¬ A b0) (hL : L ≤ 384) (hA : ∀ q, s.heap.size ≤ q → A q) (fin : ∀ (H9 : Heap) (locs : List Loc) (ls : Array Slot) (kc ks : Nat), va_S A s.heap H9 locs → kc ≤ 600000 → ks ≤ 7302250 → W p l e room_1 s m #[Value.ref b0] below meth c H9 locs kc ks Q (F0 m 1460 ls [.int (iI 1)])) : ∀ (n k : Nat) (g h : Mm), k + n = 65 → Rel g h → VX p l e room_1 s m #[Value.ref b0] below meth c 4 (98 + k) (2485 + 8 * k) D A (pW a b yc) Q 18 [(0, .ref b0), (1, .ref (a 0)), (2, .ref (b 0)), (3, .int (iI (6 * (k : Int))))] [] (g, h)
  | 0, k, g, h, hk, H => law_step C hX hbl hbA hL hA fin k (by omega) (fun z => by omega) H
  | n + 1, k, g, h, hk, H => law_step C hX hbl hbA hL hA fin k (by omega) (fun _ g' h' hR => law_loop C hX hbl hbA hL hA fin n (k + 1) g' h' (by omega) hR) H
