/-! Both worlds, one behind the other: the law's rows. -/
abbrev pW (a b : Int → Nat) (yc : Nat → ClassId) : Mm × Mm → va_W := fun gh => cw a yc gh.1 ++ mw b yc gh.2
def Ac (n : Nat) (a : Int → Nat) (q : Nat) : Prop := ∃ k : Int, 0 ≤ k ∧ k < n ∧ q = a k
theorem cw_len (a : Int → Nat) (yc : Nat → ClassId) (g : Mm) : (cw a yc g).length = 86 := by show (wo 86 a (cta a yc) g).length = 86; unfold wo; simp
theorem pW_l {a b : Int → Nat} {yc : Nat → ClassId} {gh : Mm × Mm} {k : Int} (h0 : 0 ≤ k) (h1 : k < 86) : (pW a b yc gh)[k.toNat]? = some (a k, cta a yc gh.1 k) := by
  have := cw_len a yc gh.1
  rw [List.getElem?_append_left (by omega)]; exact wo_at h0 (by omega)
theorem pW_r {a b : Int → Nat} {yc : Nat → ClassId} {gh : Mm × Mm} {k : Int} (h0 : 0 ≤ k) (h1 : k < 12) : (pW a b yc gh)[86 + k.toNat]? = some (b k, ctm b yc gh.2 k) := by
  have := cw_len a yc gh.1
  rw [List.getElem?_append_right (by omega), this, show 86 + k.toNat - 86 = k.toNat by omega]; exact wo_at h0 (by omega)
theorem pW_P {D : va_G} {H : Heap} {a b : Int → Nat} {yc : Nat → ClassId} {g h : Mm} : va_P D vwCl (pW a b yc (g, h)) H ↔ va_P D vwCl (cw a yc g) H ∧ va_P D vwCl (mw b yc h) H := by
  constructor
  · intro hP
    exact ⟨wo_P.mpr (fun k h0 h1 => hP _ _ (pW_l (gh := (g, h)) h0 (by omega))), wo_P.mpr (fun k h0 h1 => hP _ _ (pW_r (gh := (g, h)) h0 (by omega)))⟩
  · rintro ⟨h1, h2⟩
    exact h1.app h2
/-- the addresses: all apart, all the law's own -/
def pD (A : Nat → Prop) (a b : Int → Nat) : Prop := (∀ i j : Int, 0 ≤ i → i < 86 → 0 ≤ j → j < 86 → a i = a j → i = j) ∧ (∀ i j : Int, 0 ≤ i → i < 12 → 0 ≤ j → j < 12 → b i = b j → i = j) ∧ (∀ i j : Int, 0 ≤ i → i < 86 → 0 ≤ j → j < 12 → a i ≠ b j) ∧ (∀ i : Int, 0 ≤ i → i < 86 → A (a i)) ∧ ∀ j : Int, 0 ≤ j → j < 12 → A (b j)
theorem pD_of {A : Nat → Prop} {a b : Int → Nat} {yc : Nat → ClassId} {gh : Mm × Mm} (h : va_D A (pW a b yc gh)) : pD A a b := by
  refine ⟨fun i j x y z u e => ?_, fun i j x y z u e => ?_, fun i j x y z u e => ?_, fun i x y => h.2 _ _ (pW_l x y), fun j x y => h.2 _ _ (pW_r x y)⟩
  · have := h.1 _ _ _ _ (pW_l x y) (pW_l z u) e; omega
  · have := h.1 _ _ _ _ (pW_r x y) (pW_r z u) e; omega
  · have := h.1 _ _ _ _ (pW_l x y) (pW_r z u) e; omega
theorem pD_to {A : Nat → Prop} {a b : Int → Nat} {yc : Nat → ClassId} {gh : Mm × Mm} (h : pD A a b) : va_D A (pW a b yc gh) := by
  have hl := cw_len a yc gh.1
  have key : ∀ (k : Nat) (q : Nat × va_E), (pW a b yc gh)[k]? = some q → (k < 86 ∧ q.1 = a (k : Int)) ∨ (86 ≤ k ∧ k < 98 ∧ q.1 = b ((k : Int) - 86)) := by
    intro k q hq
    by_cases hk : k < 86
    · have := pW_l (a := a) (b := b) (yc := yc) (gh := gh) (k := (k : Int)) (by omega) (by omega)
      rw [Int.toNat_natCast, hq] at this
      exact Or.inl ⟨hk, by rw [Option.some.inj this]⟩
    · rw [List.getElem?_append_right (by omega), hl] at hq
      obtain ⟨h1, h2⟩ := wo_el hq
      exact Or.inr ⟨by omega, by omega, by rw [h2, show ((k - 86 : Nat) : Int) = (k : Int) - 86 by omega]⟩
  refine ⟨fun i j x y hi hj e => ?_, fun k q hq => ?_⟩
  · rcases key i x hi with ⟨i1, i2⟩ | ⟨i1, i2, i3⟩ <;> rcases key j y hj with ⟨j1, j2⟩ | ⟨j1, j2, j3⟩
    · have := h.1 i j (by omega) (by omega) (by omega) (by omega) (by rw [← i2, ← j2]; exact e); omega
    · exact absurd (by rw [← i2, ← j3]; exact e) (h.2.2.1 i ((j : Int) - 86) (by omega) (by omega) (by omega) (by omega))
    · exact absurd (by rw [← i3, ← j2]; exact e.symm) (h.2.2.1 j ((i : Int) - 86) (by omega) (by omega) (by omega) (by omega))
    · have := h.2.1 ((i : Int) - 86) ((j : Int) - 86) (by omega) (by omega) (by omega) (by omega) (by rw [← i3, ← j3]; exact e); omega
  · rcases key k q hq with ⟨i1, i2⟩ | ⟨i1, i2, i3⟩
    · rw [i2]; exact h.2.2.2.1 _ (by omega) (by omega)
    · rw [i3]; exact h.2.2.2.2 _ (by omega) (by omega)
theorem pD_l {A : Nat → Prop} {a b : Int → Nat} (h : pD A a b) {A1 : Nat → Prop} (h1 : ∀ q, Ac 86 a q → A1 q) (yc : Nat → ClassId) (g : Mm) : va_D A1 (cw a yc g) := wo_D.mpr ⟨fun i j x y z u e => h.1 i j x (by omega) z (by omega) e, fun k x y => h1 _ ⟨k, x, y, rfl⟩⟩
theorem pD_r {A : Nat → Prop} {a b : Int → Nat} (h : pD A a b) (yc : Nat → ClassId) (g : Mm) : va_D (Ac 12 b) (mw b yc g) := wo_D.mpr ⟨fun i j x y z u e => h.2.1 i j x (by omega) z (by omega) e, fun k x y => ⟨k, x, y, rfl⟩⟩
theorem pD_Al {A : Nat → Prop} {a b : Int → Nat} (h : pD A a b) : ∀ q, Ac 86 a q → A q := by rintro q ⟨k, x, y, rfl⟩; exact h.2.2.2.1 k x (by omega)
theorem pD_Ar {A : Nat → Prop} {a b : Int → Nat} (h : pD A a b) : ∀ q, Ac 12 b q → A q := by rintro q ⟨k, x, y, rfl⟩; exact h.2.2.2.2 k x (by omega)
def xv (xs : Nat → Int32) (z : Int) : Int := (xs z.toNat).toInt
theorem xv_r (xs : Nat → Int32) (z : Int) : R32 (xv xs z) := iI_rng _
section LW
variable {p : Program} {l : Launch} {e : Env} {R : Room} {s : State} {m : MethodId} {args : Array Value} {below : List Frame} {meth : Method} {c : Code} {cc : ByteArray} {nL kc ks : Nat} {Ts : List Cond} {own : String} {ret9 : Option FieldType} {D : va_G} {yc : Nat → ClassId} {t1 t2 : Nat} {A : Nat → Prop} {Q : State → Prop} {pc : Nat} {lv : List (Nat × Value)} {st : List Value} {a b : Int → Nat} {g h : Mm}
theorem y_sl {M : Type} {ww : M → va_W} {gg : M} (C : VC p s m args meth c cc nL Ts own ret9 D yc t1 t2 A ww) {b0 L : Nat} {xs : Nat → Int32} (hX : va_X b0 L xs s s.heap) (hbl : b0 < s.heap.size) (hbA : ¬ A b0) (d : decode cc pc = .ok (.arraylength, 1)) (kk : VX p l e R s m args below meth c nL kc ks D A ww Q (pc + 1) lv (.int (iI (L : Int)) :: st) gg) : VX p l e R s m args below meth c nL kc ks D A ww Q pc lv (.ref b0 :: st) gg := fun H locs ls hP hS hl => va_slen C.hx C.hb hX hbl hbA hS d (by
  have := kk H locs ls hP hS hl
  rw [show iI (L : Int) = Int32.ofNat L from Int32.ofInt_eq_ofNat] at this; exact this)
theorem y_sld {M : Type} {ww : M → va_W} {gg : M} (C : VC p s m args meth c cc nL Ts own ret9 D yc t1 t2 A ww) {b0 L : Nat} {xs : Nat → Int32} (hX : va_X b0 L xs s s.heap) (hbl : b0 < s.heap.size) (hbA : ¬ A b0) {z : Int} (h0 : 0 ≤ z) (h1 : z < L) (hL : L ≤ 384) (d : decode cc pc = .ok (.iaload, 1)) (kk : VX p l e R s m args below meth c nL kc ks D A ww Q (pc + 1) lv (.int (iI (xv xs z)) :: st) gg) : VX p l e R s m args below meth c nL kc ks D A ww Q pc lv (.int (iI z) :: .ref b0 :: st) gg := fun H locs ls hP hS hl => va_sld C.hx C.hb hX hbl hbA hS (iI_in h0 h1 (by omega)) d (by
  have := kk H locs ls hP hS hl
  rw [iI_cl ⟨by omega, by omega⟩]
  unfold xv at this
  rw [iI_of] at this; exact this)
theorem x_icr {M : Type} {ww : M → va_W} {gg : M} (C : VC p s m args meth c cc nL Ts own ret9 D yc t1 t2 A ww) {r : Int32} {off : Int} {tgt : Nat} (d : decode cc pc = .ok (.if_icmp .eq off, 3)) (ht : (pc : Int) + off = (tgt : Int)) (kk : VX p l e R s m args below meth c nL kc ks D A ww Q tgt lv st gg) : VX p l e R s m args below meth c nL kc ks D A ww Q pc lv (.int r :: .int r :: st) gg := fun H locs ls hP hS hl => lv_icmp_eq C.hx C.hb d ht (fun _ => kk H locs ls hP hS hl) (fun h9 => absurd rfl h9)
theorem x_lcr {M : Type} {ww : M → va_W} {gg : M} (C : VC p s m args meth c cc nL Ts own ret9 D yc t1 t2 A ww) {r : Int64} (d : decode cc pc = .ok (.lcmp, 1)) (kk : VX p l e R s m args below meth c nL kc ks D A ww Q (pc + 1) lv (.int (iI 0) :: st) gg) : VX p l e R s m args below meth c nL kc ks D A ww Q pc lv (.long r :: .long r :: st) gg := by
  intro H locs ls hP hS hl
  refine W.lcmp C.hx C.hb d ?_
  rcases lg_cmp_cases r r with ⟨h9, q⟩ | ⟨h9, q⟩ | ⟨h9, q⟩
  · rw [Int64.lt_iff_toInt_lt] at h9; omega
  · rw [q]; exact kk H locs ls hP hS hl
  · rw [Int64.lt_iff_toInt_lt] at h9; omega
theorem y_cCi (C : VC p s m args meth c cc nL Ts own ret9 D yc t1 t2 A (pW a b yc)) {yn : MethodName} {wsc : List Cond} {rmc : Room} {As rest st0 : List Value} {post : Int32 → Mm → Prop} {index maxL nA : Nat} {bytes : ByteArray} {rtc : Option FieldType} (hk : kc + 0 ≤ R.cells ∧ ks + 0 ≤ R.slots) (hM : Ci l yn wsc rmc D yc t1 t2 (Ac 86 a) (cw a yc) (.ref (a 0) :: As) g post) (cw9 : CallW R s args own RX4 index yn bytes maxL rtc wsc rmc 0 0 nA) (hn : As.length = nA) (hst : st0 = As.reverse ++ .ref (a 0) :: rest) (hrm : (rest.map fun v => v.category).sum ≤ 8) (d : decode cc pc = .ok (.invokevirtual index, 3)) (kk : ∀ (r : Int32) (g' : Mm), post r g' → VX p l e R s m args below meth c nL kc ks D A (pW a b yc) Q (pc + 3) lv (.int r :: rest) (g', h)) : VX p l e R s m args below meth c nL kc ks D A (pW a b yc) Q pc lv st0 (g, h) := by
  intro H locs ls hP hS hl
  have hp9 := pD_of (C.hD (g, h))
  have hP1 := pW_P.mp hP
  refine va_calli (va_runV (As := As) (rest := rest) C.1 hM cw9 ⟨Wd.blind _, va_recv C.hK hP1.1 (ci := 4) (q0 := (0 : Int).toNat) rfl (wo_is (by omega) (by omega) ct_cow), fun U hU hW => ⟨rfl, by rw [hU]; exact hP1.1, va_K.moved hW.alike C.hK, pD_l hp9 (fun q h9 => h9) yc, (C.hF.warm hW (by rw [hU]; exact hS)).narrow (pD_Al hp9)⟩⟩ rfl hn hl.1 hst (lv_room hrm) d hk) hS (fun q _ h9 => pD_Al hp9 q h9) (pD_Al hp9) (fun r u t H1 locs1 ht _ hp hb _ hk1 hS1 => ?_)
  have kept : va_P D vwCl (mw b yc h) H1 := wo_P.mpr (fun x x0 x1 => by
    have hx := wo_P.mp hP1.2 x x0 x1
    exact hx.kept (hk1 _ hx.lt (fun z => by obtain ⟨j, j0, j1, j2⟩ := z; exact hp9.2.2.1 j x j0 (by omega) x0 (by omega) j2.symm)))
  exact kk r u hp H1 locs1 ls (pW_P.mpr ⟨by rw [← ht]; exact hb, kept⟩) hS1 hl
theorem y_cMi (C : VC p s m args meth c cc nL Ts own ret9 D yc t1 t2 A (pW a b yc)) {yn : MethodName} {wsc : List Cond} {rmc : Room} {As rest st0 : List Value} {post : Int32 → Mm → Prop} {index maxL nA : Nat} {bytes : ByteArray} {rtc : Option FieldType} (hk : kc + 0 ≤ R.cells ∧ ks + 0 ≤ R.slots) (hM : Ci l yn wsc rmc D yc t1 t2 (Ac 12 b) (mw b yc) (.ref (b 0) :: As) h post) (cw9 : CallW R s args own RX5 index yn bytes maxL rtc wsc rmc 0 0 nA) (hn : As.length = nA) (hst : st0 = As.reverse ++ .ref (b 0) :: rest) (hrm : (rest.map fun v => v.category).sum ≤ 8) (d : decode cc pc = .ok (.invokevirtual index, 3)) (kk : ∀ (r : Int32) (g' : Mm), post r g' → VX p l e R s m args below meth c nL kc ks D A (pW a b yc) Q (pc + 3) lv (.int r :: rest) (g, g')) : VX p l e R s m args below meth c nL kc ks D A (pW a b yc) Q pc lv st0 (g, h) := by
  intro H locs ls hP hS hl
  have hp9 := pD_of (C.hD (g, h))
  have hP1 := pW_P.mp hP
  refine va_calli (va_runV (As := As) (rest := rest) C.1 hM cw9 ⟨Wd.blind _, va_recv C.hK hP1.2 (ci := 5) (q0 := (0 : Int).toNat) rfl (wo_is (by omega) (by omega) ct_mod), fun U hU hW => ⟨rfl, by rw [hU]; exact hP1.2, va_K.moved hW.alike C.hK, pD_r hp9 yc, (C.hF.warm hW (by rw [hU]; exact hS)).narrow (pD_Ar hp9)⟩⟩ rfl hn hl.1 hst (lv_room hrm) d hk) hS (fun q _ h9 => pD_Ar hp9 q h9) (pD_Ar hp9) (fun r u t H1 locs1 ht _ hp hb _ hk1 hS1 => ?_)
  have kept : va_P D vwCl (cw a yc g) H1 := wo_P.mpr (fun x x0 x1 => by
    have hx := wo_P.mp hP1.1 x x0 x1
    exact hx.kept (hk1 _ hx.lt (fun z => by obtain ⟨j, j0, j1, j2⟩ := z; exact hp9.2.2.1 x j x0 (by omega) j0 (by omega) j2)))
  exact kk r u hp H1 locs1 ls (pW_P.mpr ⟨kept, by rw [← ht]; exact hb⟩) hS1 hl
theorem y_cCl (C : VC p s m args meth c cc nL Ts own ret9 D yc t1 t2 A (pW a b yc)) {yn : MethodName} {wsc : List Cond} {rmc : Room} {As rest st0 : List Value} {post : Int64 → Mm → Prop} {index maxL nA : Nat} {bytes : ByteArray} {rtc : Option FieldType} (hk : kc + 0 ≤ R.cells ∧ ks + 0 ≤ R.slots) (hM : Cl l yn wsc rmc D yc t1 t2 (Ac 86 a) (cw a yc) (.ref (a 0) :: As) g post) (cw9 : CallW R s args own RX4 index yn bytes maxL rtc wsc rmc 0 0 nA) (hn : As.length = nA) (hst : st0 = As.reverse ++ .ref (a 0) :: rest) (hrm : (rest.map fun v => v.category).sum ≤ 8) (d : decode cc pc = .ok (.invokevirtual index, 3)) (kk : ∀ (r : Int64) (g' : Mm), post r g' → VX p l e R s m args below meth c nL kc ks D A (pW a b yc) Q (pc + 3) lv (.long r :: rest) (g', h)) : VX p l e R s m args below meth c nL kc ks D A (pW a b yc) Q pc lv st0 (g, h) := by
  intro H locs ls hP hS hl
  have hp9 := pD_of (C.hD (g, h))
  have hP1 := pW_P.mp hP
  refine va_calll (va_runV (As := As) (rest := rest) C.1 hM cw9 ⟨Wd.blind _, va_recv C.hK hP1.1 (ci := 4) (q0 := (0 : Int).toNat) rfl (wo_is (by omega) (by omega) ct_cow), fun U hU hW => ⟨rfl, by rw [hU]; exact hP1.1, va_K.moved hW.alike C.hK, pD_l hp9 (fun q h9 => h9) yc, (C.hF.warm hW (by rw [hU]; exact hS)).narrow (pD_Al hp9)⟩⟩ rfl hn hl.1 hst (lv_room hrm) d hk) hS (fun q _ h9 => pD_Al hp9 q h9) (pD_Al hp9) (fun r u t H1 locs1 ht _ hp hb _ hk1 hS1 => ?_)
  have kept : va_P D vwCl (mw b yc h) H1 := wo_P.mpr (fun x x0 x1 => by
    have hx := wo_P.mp hP1.2 x x0 x1
    exact hx.kept (hk1 _ hx.lt (fun z => by obtain ⟨j, j0, j1, j2⟩ := z; exact hp9.2.2.1 j x j0 (by omega) x0 (by omega) j2.symm)))
  exact kk r u hp H1 locs1 ls (pW_P.mpr ⟨by rw [← ht]; exact hb, kept⟩) hS1 hl
theorem y_cMl (C : VC p s m args meth c cc nL Ts own ret9 D yc t1 t2 A (pW a b yc)) {yn : MethodName} {wsc : List Cond} {rmc : Room} {As rest st0 : List Value} {post : Int64 → Mm → Prop} {index maxL nA : Nat} {bytes : ByteArray} {rtc : Option FieldType} (hk : kc + 0 ≤ R.cells ∧ ks + 0 ≤ R.slots) (hM : Cl l yn wsc rmc D yc t1 t2 (Ac 12 b) (mw b yc) (.ref (b 0) :: As) h post) (cw9 : CallW R s args own RX5 index yn bytes maxL rtc wsc rmc 0 0 nA) (hn : As.length = nA) (hst : st0 = As.reverse ++ .ref (b 0) :: rest) (hrm : (rest.map fun v => v.category).sum ≤ 8) (d : decode cc pc = .ok (.invokevirtual index, 3)) (kk : ∀ (r : Int64) (g' : Mm), post r g' → VX p l e R s m args below meth c nL kc ks D A (pW a b yc) Q (pc + 3) lv (.long r :: rest) (g, g')) : VX p l e R s m args below meth c nL kc ks D A (pW a b yc) Q pc lv st0 (g, h) := by
  intro H locs ls hP hS hl
  have hp9 := pD_of (C.hD (g, h))
  have hP1 := pW_P.mp hP
  refine va_calll (va_runV (As := As) (rest := rest) C.1 hM cw9 ⟨Wd.blind _, va_recv C.hK hP1.2 (ci := 5) (q0 := (0 : Int).toNat) rfl (wo_is (by omega) (by omega) ct_mod), fun U hU hW => ⟨rfl, by rw [hU]; exact hP1.2, va_K.moved hW.alike C.hK, pD_r hp9 yc, (C.hF.warm hW (by rw [hU]; exact hS)).narrow (pD_Ar hp9)⟩⟩ rfl hn hl.1 hst (lv_room hrm) d hk) hS (fun q _ h9 => pD_Ar hp9 q h9) (pD_Ar hp9) (fun r u t H1 locs1 ht _ hp hb _ hk1 hS1 => ?_)
  have kept : va_P D vwCl (cw a yc g) H1 := wo_P.mpr (fun x x0 x1 => by
    have hx := wo_P.mp hP1.1 x x0 x1
    exact hx.kept (hk1 _ hx.lt (fun z => by obtain ⟨j, j0, j1, j2⟩ := z; exact hp9.2.2.1 x j x0 (by omega) j0 (by omega) j2)))
  exact kk r u hp H1 locs1 ls (pW_P.mpr ⟨kept, by rw [← ht]; exact hb⟩) hS1 hl
/-- even() makes a row of its own -/
theorem y_cE (C : VC p s m args meth c cc nL Ts own ret9 D yc t1 t2 A (pW a b yc)) (hA : ∀ q, s.heap.size ≤ q → A q) {yn : MethodName} {wsc : List Cond} {rmc : Room} {rest st0 : List Value} {post : Int32 → Mm → Prop} {index maxL mc ms : Nat} {bytes : ByteArray} {rtc : Option FieldType} (hk : kc + mc ≤ R.cells ∧ ks + ms ≤ R.slots) (hM : ∀ A1 : Nat → Prop, Met l yn wsc rmc (va_Pc [.ref (a 0)] (WA D yc t1 t2 A1 a g)) (va_Qi post (fun g' t => va_P D vwCl (cw a yc g') t.heap) A1) mc ms A1) (cw9 : CallW R s args own RX4 index yn bytes maxL rtc wsc rmc mc ms 0) (hst : st0 = .ref (a 0) :: rest) (hrm : (rest.map fun v => v.category).sum ≤ 8) (d : decode cc pc = .ok (.invokevirtual index, 3)) (kk : ∀ (r : Int32) (g' : Mm), post r g' → VX p l e R s m args below meth c nL (kc + mc) (ks + ms) D A (pW a b yc) Q (pc + 3) lv (.int r :: rest) (g', h)) : VX p l e R s m args below meth c nL kc ks D A (pW a b yc) Q pc lv st0 (g, h) := by
  intro H locs ls hP hS hl
  have hp9 := pD_of (C.hD (g, h))
  have hP1 := pW_P.mp hP
  have hA1 : ∀ q, (Ac 86 a q ∨ H.size ≤ q) → A q := fun q z => z.elim (pD_Al hp9 q) (fun y => hA q (Nat.le_trans hS.1 y))
  refine va_calli (va_runV (As := []) (rest := rest) C.1 (hM (fun q => Ac 86 a q ∨ H.size ≤ q)) cw9 ⟨WA.blind _, va_recv C.hK hP1.1 (ci := 4) (q0 := (0 : Int).toNat) rfl (wo_is (by omega) (by omega) ct_cow), fun U hU hW => ⟨rfl, ⟨by rw [hU]; exact hP1.1, va_K.moved hW.alike C.hK, pD_l hp9 (fun q h9 => Or.inl h9) yc, (C.hF.warm hW (by rw [hU]; exact hS)).narrow hA1⟩, fun q h9 => Or.inr (by rw [hU] at h9; exact h9)⟩⟩ rfl rfl hl.1 hst (lv_room hrm) d hk) hS (fun q _ h9 => hA1 q h9) hA1 (fun r u t H1 locs1 ht _ hp hb _ hk1 hS1 => ?_)
  have kept : va_P D vwCl (mw b yc h) H1 := wo_P.mpr (fun x x0 x1 => by
    have hx := wo_P.mp hP1.2 x x0 x1
    exact hx.kept (hk1 _ hx.lt (fun z => by
      rcases z with ⟨j, j0, j1, j2⟩ | z
      · exact hp9.2.2.1 j x j0 (by omega) x0 (by omega) j2.symm
      · exact absurd hx.lt (by show ¬ b x < H.size; omega))))
  exact kk r u hp H1 locs1 ls (pW_P.mpr ⟨by rw [← ht]; exact hb, kept⟩) hS1 hl
end LW
