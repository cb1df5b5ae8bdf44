/-! What holds at the law's entry. -/
theorem ent_t1 {b0 : Nat} {s : State} (hts : ∀ w ∈ lw_tbl, w.before #[Value.ref b0] s = true) (hgv : (Jvm.Cond.and given_1 narrow_1).before #[Value.ref b0] s = true) : ∃ t : Nat, va_Z "HalvedCow" "KIND_ABOVE" "[I" (.ref t) (fun q => s.heap.size ≤ q) s s.heap ∧ va_T .int t 6 (fun j => .int (iI (if j = 0 then -1 else if j = 4 then 2 else if j = 5 then 3 else 0))) (fun q => s.heap.size ≤ q) s s.heap := by
  have hs := flat_of_before _ hgv
  have hA : ∀ a : Nat, a < s.heap.size → ¬ (fun q => s.heap.size ≤ q) a := fun a h => Nat.not_le.mpr h
  obtain ⟨t, e, T⟩ := va_Tof (tm := (Term.static "HalvedCow" "KIND_ABOVE" "[I")) (ty := .int) (N := 6) (f := fun j => .int (iI (if j = 0 then -1 else if j = 4 then 2 else if j = 5 then 3 else 0))) (A := fun q => s.heap.size ≤ q) (by decide) (hs (.arrayOf (Term.static "HalvedCow" "KIND_ABOVE" "[I") .int) (by decide +kernel)) (va_eqt (hs (.eq (.length (Term.static "HalvedCow" "KIND_ABOVE" "[I")) (.int 6)) (by decide +kernel))) (fun j hj => by
    rcases (show j = 0 ∨ j = 1 ∨ j = 2 ∨ j = 3 ∨ j = 4 ∨ j = 5 by omega) with rfl | rfl | rfl | rfl | rfl | rfl
    · have h := va_eqt (hs (.eq (.elem (Term.static "HalvedCow" "KIND_ABOVE" "[I") (.int 0)) (.int (-1))) (by decide +kernel))
      exact h.trans rfl
    · have h := va_eqt (hs (.eq (.elem (Term.static "HalvedCow" "KIND_ABOVE" "[I") (.int 1)) (.int 0)) (by decide +kernel))
      exact h.trans rfl
    · have h := va_eqt (hs (.eq (.elem (Term.static "HalvedCow" "KIND_ABOVE" "[I") (.int 2)) (.int 0)) (by decide +kernel))
      exact h.trans rfl
    · have h := va_eqt (hs (.eq (.elem (Term.static "HalvedCow" "KIND_ABOVE" "[I") (.int 3)) (.int 0)) (by decide +kernel))
      exact h.trans rfl
    · have h := va_eqt (hs (.eq (.elem (Term.static "HalvedCow" "KIND_ABOVE" "[I") (.int 4)) (.int 2)) (by decide +kernel))
      exact h.trans rfl
    · have h := va_eqt (hs (.eq (.elem (Term.static "HalvedCow" "KIND_ABOVE" "[I") (.int 5)) (.int 3)) (by decide +kernel))
      exact h.trans rfl) hA
  exact ⟨t, va_Zof (hts (.laysStatic "HalvedCow" "KIND_ABOVE" "[I") (List.mem_of_getElem? (i := 363) (by decide +kernel))) (hts (.initialized "HalvedCow") (List.mem_of_getElem? (i := 51) (by decide +kernel))) e hA, T⟩
theorem ent_t2 {b0 : Nat} {s : State} (hts : ∀ w ∈ lw_tbl, w.before #[Value.ref b0] s = true) (hgv : (Jvm.Cond.and given_1 narrow_1).before #[Value.ref b0] s = true) : ∃ t : Nat, va_Z "HalvedCow" "KIND_LETTERS" "[I" (.ref t) (fun q => s.heap.size ≤ q) s s.heap ∧ va_T .int t 6 (fun j => .int (iI (if j = 0 then 99 else if j = 1 then 100 else if j = 2 then 121 else if j = 3 then 117 else if j = 4 then 104 else 120))) (fun q => s.heap.size ≤ q) s s.heap := by
  have hs := flat_of_before _ hgv
  have hA : ∀ a : Nat, a < s.heap.size → ¬ (fun q => s.heap.size ≤ q) a := fun a h => Nat.not_le.mpr h
  obtain ⟨t, e, T⟩ := va_Tof (tm := (Term.static "HalvedCow" "KIND_LETTERS" "[I")) (ty := .int) (N := 6) (f := fun j => .int (iI (if j = 0 then 99 else if j = 1 then 100 else if j = 2 then 121 else if j = 3 then 117 else if j = 4 then 104 else 120))) (A := fun q => s.heap.size ≤ q) (by decide) (hs (.arrayOf (Term.static "HalvedCow" "KIND_LETTERS" "[I") .int) (by decide +kernel)) (va_eqt (hs (.eq (.length (Term.static "HalvedCow" "KIND_LETTERS" "[I")) (.int 6)) (by decide +kernel))) (fun j hj => by
    rcases (show j = 0 ∨ j = 1 ∨ j = 2 ∨ j = 3 ∨ j = 4 ∨ j = 5 by omega) with rfl | rfl | rfl | rfl | rfl | rfl
    · have h := va_eqt (hs (.eq (.elem (Term.static "HalvedCow" "KIND_LETTERS" "[I") (.int 0)) (.int 99)) (by decide +kernel))
      exact h.trans rfl
    · have h := va_eqt (hs (.eq (.elem (Term.static "HalvedCow" "KIND_LETTERS" "[I") (.int 1)) (.int 100)) (by decide +kernel))
      exact h.trans rfl
    · have h := va_eqt (hs (.eq (.elem (Term.static "HalvedCow" "KIND_LETTERS" "[I") (.int 2)) (.int 121)) (by decide +kernel))
      exact h.trans rfl
    · have h := va_eqt (hs (.eq (.elem (Term.static "HalvedCow" "KIND_LETTERS" "[I") (.int 3)) (.int 117)) (by decide +kernel))
      exact h.trans rfl
    · have h := va_eqt (hs (.eq (.elem (Term.static "HalvedCow" "KIND_LETTERS" "[I") (.int 4)) (.int 104)) (by decide +kernel))
      exact h.trans rfl
    · have h := va_eqt (hs (.eq (.elem (Term.static "HalvedCow" "KIND_LETTERS" "[I") (.int 5)) (.int 120)) (by decide +kernel))
      exact h.trans rfl) hA
  exact ⟨t, va_Zof (hts (.laysStatic "HalvedCow" "KIND_LETTERS" "[I") (List.mem_of_getElem? (i := 349) (by decide +kernel))) (hts (.initialized "HalvedCow") (List.mem_of_getElem? (i := 51) (by decide +kernel))) e hA, T⟩
theorem ent_SF {b0 : Nat} {s : State} (hts : ∀ w ∈ lw_tbl, w.before #[Value.ref b0] s = true) (hgv : (Jvm.Cond.and given_1 narrow_1).before #[Value.ref b0] s = true) : ∃ t1 t2 : Nat, SF t1 t2 (fun q => s.heap.size ≤ q) s := by
  obtain ⟨t1, h1⟩ := ent_t1 hts hgv
  obtain ⟨t2, h2⟩ := ent_t2 hts hgv
  exact ⟨t1, t2, h1, h2, ⟨va_Nw.of rfl (hts (.fieldLinkNest "HalvedCow$Beast" 15 "HalvedCow" "KIND_ABOVE" "[I" "HalvedCow") (List.mem_of_getElem? (i := 362) (by decide +kernel))), va_Nw.of rfl (hts (.fieldLinkNest "HalvedCow$Reader" 92 "HalvedCow" "KIND_LETTERS" "[I" "HalvedCow") (List.mem_of_getElem? (i := 348) (by decide +kernel)))⟩, ⟨va_Nw.of rfl (hts (.methodLinkNest "HalvedCow$Farms" 73 yX4_isNone "HalvedCow") (List.mem_of_getElem? (i := 428) (by decide +kernel))), va_Nw.of rfl (hts (.methodLinkNest "HalvedCow$Reader" 63 yX4_outside "HalvedCow") (List.mem_of_getElem? (i := 330) (by decide +kernel)))⟩, va_Nw.of rfl (hts (.methodLinkNest "HalvedCow" 31 yX2_init "HalvedCow") (List.mem_of_getElem? (i := 156) (by decide +kernel))), va_Nw.of rfl (hts (.methodLinkNest "HalvedCow$Farms" 30 yX0_init "HalvedCow") (List.mem_of_getElem? (i := 79) (by decide +kernel)))⟩
theorem ent_AO {b0 : Nat} {s : State} (hts : ∀ w ∈ lw_tbl, w.before #[Value.ref b0] s = true) : AOs s := ⟨va_AO.of (hts (.arrayOver (.object RX0)) (List.mem_of_getElem? (i := 77) (by decide +kernel))), va_AO.of (hts (.arrayOver (.object RX1)) (List.mem_of_getElem? (i := 153) (by decide +kernel))), va_AO.of (hts (.arrayOver (.object RX3)) (List.mem_of_getElem? (i := 69) (by decide +kernel)))⟩
theorem ao_K {C : String} {s : State} (h : va_AO C s) : ∃ cA : ClassId, ArrOfT s cA (.object C) ∧ va_RA s cA (.object C) := by
  obtain ⟨comp, c, k, h1, h2, h3, h4, h5⟩ := Cond.arrayOver_spec h
  exact ⟨c, fun N z => ⟨(fun k h => by cases h), k, h3, comp, h4⟩, k, comp, h3, h4, h1, h5⟩
theorem ac_K {ty : FieldType} {args : Array Value} {s : State} (hty : ty = .int ∨ ty = .boolean) (h : (Cond.arrayClass ty).before args s = true) : ∃ cA : ClassId, ArrOfT s cA ty ∧ va_RA s cA ty := by
  obtain ⟨cA, kA, comp, hfind, hk, hkind⟩ := Cond.arrayClass_spec h
  refine ⟨cA, fun N z => ⟨fun k h => (by cases h), kA, hk, comp, hkind⟩, ?_⟩
  rcases hty with rfl | rfl
  · exact hfind
  · exact hfind
theorem ent_K {b0 : Nat} {s : State} (hts : ∀ w ∈ lw_tbl, w.before #[Value.ref b0] s = true) : ∃ (D : va_G) (yc : Nat → ClassId), va_K D vwCl (ty5 yc) s := by
  obtain ⟨c0, i0, hK0⟩ := u_known (C := RX0) (T := TX0) (N := 5) (n := 5) hts lwx_wsX00 (hts (.instantiable RX0 5) (List.mem_of_getElem? (i := 78) (by decide +kernel)))
  obtain ⟨c1, i1, hK1⟩ := u_known (C := RX1) (T := TX1) (N := 11) (n := 11) hts lwx_wsX10 (hts (.instantiable RX1 11) (List.mem_of_getElem? (i := 71) (by decide +kernel)))
  obtain ⟨c2, i2, hK2⟩ := u_known (C := RX2) (T := TX2) (N := 2) (n := 2) hts lwx_wsX20 (hts (.instantiable RX2 2) (List.mem_of_getElem? (i := 155) (by decide +kernel)))
  obtain ⟨c3, i3, hK3⟩ := u_known (C := RX3) (T := TX3) (N := 2) (n := 2) hts lwx_wsX30 (hts (.instantiable RX3 2) (List.mem_of_getElem? (i := 170) (by decide +kernel)))
  obtain ⟨c4, i4, hK4⟩ := u_known (C := RX4) (T := TX4) (N := 10) (n := 10) hts lwx_wsX40 (hts (.instantiable RX4 10) (List.mem_of_getElem? (i := 61) (by decide +kernel)))
  obtain ⟨c5, i5, hK5⟩ := u_known (C := RX5) (T := TX5) (N := 17) (n := 17) hts lwx_wsX50 (hts (.instantiable RX5 17) (List.mem_of_getElem? (i := 699) (by decide +kernel)))
  have hO := ent_AO hts
  obtain ⟨y0, hy0⟩ := ac_K (ty := .int) (Or.inl rfl) (hts (.arrayClass .int) (List.mem_of_getElem? (i := 107) (by decide +kernel)))
  obtain ⟨y1, hy1⟩ := ac_K (ty := .boolean) (Or.inr rfl) (hts (.arrayClass .boolean) (List.mem_of_getElem? (i := 756) (by decide +kernel)))
  obtain ⟨y2, hy2⟩ := ao_K hO.1
  obtain ⟨y3, hy3⟩ := ao_K hO.2.1
  obtain ⟨y4, hy4⟩ := ao_K hO.2.2
  refine ⟨(fun k => if k = 0 then c0 else if k = 1 then c1 else if k = 2 then c2 else if k = 3 then c3 else if k = 4 then c4 else c5, fun k => if k = 0 then i0 else if k = 1 then i1 else if k = 2 then i2 else if k = 3 then i3 else if k = 4 then i4 else i5), fun k => if k = 0 then y0 else if k = 1 then y1 else if k = 2 then y2 else if k = 3 then y3 else y4, ?_, ?_⟩
  · intro k q hq
    match k, hq with
    | 0, hq => cases hq; exact hK0
    | 1, hq => cases hq; exact hK1
    | 2, hq => cases hq; exact hK2
    | 3, hq => cases hq; exact hK3
    | 4, hq => cases hq; exact hK4
    | 5, hq => cases hq; exact hK5
    | k + 6, hq => simp [vwCl] at hq
  · intro k q hq
    match k, hq with
    | 0, hq => cases hq; exact hy0
    | 1, hq => cases hq; exact hy1
    | 2, hq => cases hq; exact hy2
    | 3, hq => cases hq; exact hy3
    | 4, hq => cases hq; exact hy4
    | k + 5, hq => simp at hq
