/-! The frame: an abstract memory of Ints, the cursor judgement V over the kit's W, a row an instruction. -/
abbrev Mm : Type := Int → Int → Int
def iI (z : Int) : Int32 := Int32.ofInt z
def lI (z : Int) : Int64 := Int64.ofInt z
def mu (g : Mm) (p j v : Int) : Mm := fun p' j' => if p' = p ∧ j' = j then v else g p' j'
def bI (P : Prop) [Decidable P] : Int32 := if P then 1 else 0
abbrev R32 (z : Int) : Prop := -2147483648 ≤ z ∧ z < 2147483648
abbrev R64 (z : Int) : Prop := -9223372036854775808 ≤ z ∧ z < 9223372036854775808
theorem bI_t {P : Prop} [Decidable P] (h : P) : iI 1 = bI P := by rw [bI, if_pos h]; rfl
theorem bI_f {P : Prop} [Decidable P] (h : ¬ P) : iI 0 = bI P := by rw [bI, if_neg h]; rfl
theorem bI_cg {P P' : Prop} [Decidable P] [Decidable P'] (h : P ↔ P') : bI P = bI P' := by unfold bI; by_cases q : P <;> simp [q, h.mp, mt h.mpr, show P' ↔ P from h.symm]
theorem iI_bmod {z : Int} (h : R32 z) : z.bmod (2 ^ 32) = z := by
  have h1 := h.1
  have h2 := h.2
  rw [Int.bmod_eq_of_le (by omega) (by omega)]
theorem lI_bmod {z : Int} (h : R64 z) : z.bmod (2 ^ 64) = z := by
  have h1 := h.1
  have h2 := h.2
  rw [Int.bmod_eq_of_le (by omega) (by omega)]
theorem iI_toInt {z : Int} (h : R32 z) : (iI z).toInt = z := by
  unfold iI; rw [Int32.toInt_ofInt, iI_bmod h]
theorem iI_of (x : Int32) : iI x.toInt = x := Int32.ofInt_toInt x
theorem iI_rng (x : Int32) : R32 x.toInt := by
  have h1 := Int32.le_toInt x
  have h2 := Int32.toInt_lt x
  exact ⟨by omega, by omega⟩
theorem lI_toInt {z : Int} (h : R64 z) : (lI z).toInt = z := by
  unfold lI; rw [Int64.toInt_ofInt, lI_bmod h]
theorem lI_of (x : Int64) : lI x.toInt = x := Int64.ofInt_toInt x
theorem lI_rng (x : Int64) : R64 x.toInt := by
  have h1 := Int64.le_toInt x
  have h2 := Int64.toInt_lt x
  exact ⟨by omega, by omega⟩
theorem iI_add (a b : Int) : iI a + iI b = iI (a + b) := (Int32.ofInt_add a b).symm
theorem iI_sub (a b : Int) : iI a - iI b = iI (a - b) := (Int32.ofInt_sub a b).symm
theorem iI_mul (a b : Int) : iI a * iI b = iI (a * b) := (Int32.ofInt_mul a b).symm
theorem iI_neg (a : Int) : - iI a = iI (-a) := (Int32.ofInt_neg a).symm
theorem lI_add (a b : Int) : lI a + lI b = lI (a + b) := (Int64.ofInt_add a b).symm
theorem lI_sub (a b : Int) : lI a - lI b = lI (a - b) := (Int64.ofInt_sub a b).symm
theorem lI_mul (a b : Int) : lI a * lI b = lI (a * b) := (Int64.ofInt_mul a b).symm
theorem iI_lt {a b : Int} (ha : R32 a) (hb : R32 b) : iI a < iI b ↔ a < b := by rw [Int32.lt_iff_toInt_lt, iI_toInt ha, iI_toInt hb]
theorem iI_le {a b : Int} (ha : R32 a) (hb : R32 b) : iI a ≤ iI b ↔ a ≤ b := by rw [Int32.le_iff_toInt_le, iI_toInt ha, iI_toInt hb]
theorem iI_inj {a b : Int} (ha : R32 a) (hb : R32 b) : iI a = iI b ↔ a = b := ⟨fun h => by rw [← iI_toInt ha, ← iI_toInt hb, h], fun h => by rw [h]⟩
theorem lI_lt {a b : Int} (ha : R64 a) (hb : R64 b) : lI a < lI b ↔ a < b := by rw [Int64.lt_iff_toInt_lt, lI_toInt ha, lI_toInt hb]
theorem lI_le {a b : Int} (ha : R64 a) (hb : R64 b) : lI a ≤ lI b ↔ a ≤ b := by rw [Int64.le_iff_toInt_le, lI_toInt ha, lI_toInt hb]
theorem lI_inj {a b : Int} (ha : R64 a) (hb : R64 b) : lI a = lI b ↔ a = b := ⟨fun h => by rw [← lI_toInt ha, ← lI_toInt hb, h], fun h => by rw [h]⟩
theorem iI_cl {z : Int} (h : R32 z) : (iI z).toNatClampNeg = z.toNat := by rw [← Int32.toNat_toInt, iI_toInt h]
theorem iI_in {z : Int} {n : Nat} (h0 : 0 ≤ z) (h : z < n) (hn : (n : Int) < 2147483648) : vp_in (iI z) n := by
  rw [vp_in_iff, iI_toInt ⟨by omega, by omega⟩]; exact ⟨h0, h⟩
theorem iI_l {z : Int} (h : R32 z) : (iI z).toInt64 = lI z := by
  have h2 : R64 z := ⟨by have := h.1; omega, by have := h.2; omega⟩
  have e : (iI z).toInt64.toInt = (lI z).toInt := by rw [Int32.toInt_toInt64, iI_toInt h, lI_toInt h2]
  rw [← lI_of (iI z).toInt64, e, lI_of]
theorem lI_i (z : Int) : (lI z).toInt32 = iI z := Int64.toInt32_ofInt
/-- the static facts that every method may lean on: two tables, six links between nest mates -/
def SF (t1 t2 : Nat) (A : Nat → Prop) (U : State) : Prop :=
  (va_Z "HalvedCow" "KIND_ABOVE" "[I" (.ref t1) A U U.heap ∧ va_T .int t1 6 (fun j => .int (iI (if j = 0 then -1 else if j = 4 then 2 else if j = 5 then 3 else 0))) A U U.heap) ∧
  (va_Z "HalvedCow" "KIND_LETTERS" "[I" (.ref t2) A U U.heap ∧ va_T .int t2 6 (fun j => .int (iI (if j = 0 then 99 else if j = 1 then 100 else if j = 2 then 121 else if j = 3 then 117 else if j = 4 then 104 else 120))) A U U.heap) ∧
  (va_Nw (.fieldLinkNest "HalvedCow$Beast" 15 "HalvedCow" "KIND_ABOVE" "[I" "HalvedCow") U ∧ va_Nw (.fieldLinkNest "HalvedCow$Reader" 92 "HalvedCow" "KIND_LETTERS" "[I" "HalvedCow") U) ∧
  (va_Nw (.methodLinkNest "HalvedCow$Farms" 73 yX4_isNone "HalvedCow") U ∧ va_Nw (.methodLinkNest "HalvedCow$Reader" 63 yX4_outside "HalvedCow") U) ∧
  (va_Nw (.methodLinkNest "HalvedCow" 31 yX2_init "HalvedCow") U ∧ va_Nw (.methodLinkNest "HalvedCow$Farms" 30 yX0_init "HalvedCow") U)
theorem SF.warm {t1 t2 : Nat} {A : Nat → Prop} {s U : State} (h : SF t1 t2 A s) (hW : s.WarmedH U.vm) {locs : List Loc} (hS : va_S A s.heap U.heap locs) : SF t1 t2 A U :=
  ⟨⟨(va_Z.moved hW.alike h.1.1).kept hS.2.1, (va_T.moved hW.alike h.1.2).kept hS.2.1⟩, ⟨(va_Z.moved hW.alike h.2.1.1).kept hS.2.1, (va_T.moved hW.alike h.2.1.2).kept hS.2.1⟩,
   ⟨va_Nw.warmF hW h.2.2.1.1, va_Nw.warmF hW h.2.2.1.2⟩, ⟨va_Nw.warmM hW h.2.2.2.1.1, va_Nw.warmM hW h.2.2.2.1.2⟩, ⟨va_Nw.warmM hW h.2.2.2.2.1, va_Nw.warmM hW h.2.2.2.2.2⟩⟩
theorem SF.calling {t1 t2 : Nat} {A : Nat → Prop} {U : State} (h : SF t1 t2 A U) (g : JFrame) (mk : MethodId) (a : Array Value) : SF t1 t2 A (U.calling g mk a) :=
  ⟨⟨va_Z.moved (u := U) (U := U.calling g mk a) (Vm.Alike.refl U.vm) h.1.1, va_T.moved (u := U) (U := U.calling g mk a) (Vm.Alike.refl U.vm) h.1.2⟩, ⟨va_Z.moved (u := U) (U := U.calling g mk a) (Vm.Alike.refl U.vm) h.2.1.1, va_T.moved (u := U) (U := U.calling g mk a) (Vm.Alike.refl U.vm) h.2.1.2⟩,
   ⟨va_Nw.same rfl (u := U) (U := U.calling g mk a) rfl h.2.2.1.1, va_Nw.same rfl (u := U) (U := U.calling g mk a) rfl h.2.2.1.2⟩, ⟨va_Nw.same rfl (u := U) (U := U.calling g mk a) rfl h.2.2.2.1.1, va_Nw.same rfl (u := U) (U := U.calling g mk a) rfl h.2.2.2.1.2⟩, ⟨va_Nw.same rfl (u := U) (U := U.calling g mk a) rfl h.2.2.2.2.1, va_Nw.same rfl (u := U) (U := U.calling g mk a) rfl h.2.2.2.2.2⟩⟩
theorem SF.narrow {t1 t2 : Nat} {A B : Nat → Prop} {U : State} (h : SF t1 t2 A U) (hAB : ∀ q, B q → A q) : SF t1 t2 B U :=
  ⟨⟨h.1.1.narrow hAB, h.1.2.narrow hAB⟩, ⟨h.2.1.1.narrow hAB, h.2.1.2.narrow hAB⟩, h.2.2⟩
/-- the array classes: ints, booleans, Beasts, Farms, Rows -/
abbrev ty5 (yc : Nat → ClassId) : List (ClassId × FieldType) := [(yc 0, .int), (yc 1, .boolean), (yc 2, .object "HalvedCow$Beast"), (yc 3, .object "HalvedCow$Farms"), (yc 4, .object "HalvedCow$Row")]
/-- the world of a state -/
def Wd {M : Type} (D : va_G) (yc : Nat → ClassId) (t1 t2 : Nat) (A : Nat → Prop) (ww : M → va_W) (g : M) (U : State) : Prop :=
  va_P D vwCl (ww g) U.heap ∧ va_K D vwCl (ty5 yc) U ∧ (∀ g', va_D A (ww g')) ∧ SF t1 t2 A U
theorem Wd.blind {M : Type} {D : va_G} {yc : Nat → ClassId} {t1 t2 : Nat} {A : Nat → Prop} {ww : M → va_W} {g : M} (av : List Value) : FrameBlind (va_Pc av (Wd D yc t1 t2 A ww g)) := by
  intro a U fr mk h
  obtain ⟨h1, h2, h3, h4, h5⟩ := h
  exact ⟨h1, h2, va_K.moved (u := U) (U := U.calling fr mk a) (Vm.Alike.refl U.vm) h3, h4, h5.calling fr mk a⟩
/-- contracts: an int, a long, nothing comes back; the world goes from g to g' with post -/
def Ci {M : Type} (l : Launch) (yn : MethodName) (ws : List Cond) (rm : Room) (D : va_G) (yc : Nat → ClassId) (t1 t2 : Nat) (A : Nat → Prop) (ww : M → va_W) (av : List Value) (g : M) (post : Int32 → M → Prop) : Prop :=
  Met l yn ws rm (va_Pc av (Wd D yc t1 t2 A ww g)) (va_Qi post (fun g' t => va_P D vwCl (ww g') t.heap) A) 0 0 A
def Cl {M : Type} (l : Launch) (yn : MethodName) (ws : List Cond) (rm : Room) (D : va_G) (yc : Nat → ClassId) (t1 t2 : Nat) (A : Nat → Prop) (ww : M → va_W) (av : List Value) (g : M) (post : Int64 → M → Prop) : Prop :=
  Met l yn ws rm (va_Pc av (Wd D yc t1 t2 A ww g)) (va_Ql post (fun g' t => va_P D vwCl (ww g') t.heap) A) 0 0 A
def Cv {M : Type} (l : Launch) (yn : MethodName) (ws : List Cond) (rm : Room) (D : va_G) (yc : Nat → ClassId) (t1 t2 : Nat) (A : Nat → Prop) (ww : M → va_W) (av : List Value) (g : M) (post : M → Prop) : Prop :=
  Met l yn ws rm (va_Pc av (Wd D yc t1 t2 A ww g)) (va_Qv post (fun g' t => va_P D vwCl (ww g') t.heap) A) 0 0 A
/-- what holds all along a method's walk -/
def VC {M : Type} (p : Program) (s : State) (m : MethodId) (args : Array Value) (meth : Method) (c : Code) (cc : ByteArray) (nL : Nat) (Ts : List Cond) (own : String) (ret : Option FieldType) (D : va_G) (yc : Nat → ClassId) (t1 t2 : Nat) (A : Nat → Prop) (ww : M → va_W) : Prop :=
  (p.tables.exec = Jvm.exec ∧ c.code = cc ∧ c.maxLocals = nL ∧ s.vm.findClass own = some m.cls ∧ ∀ w ∈ Ts, w.before args s = true) ∧ va_K D vwCl (ty5 yc) s ∧ (∀ g, va_D A (ww g)) ∧ SF t1 t2 A s ∧ meth.sig.returnType = ret ∧ meth.locks = false
/-- the cursor: at pc with locals lv, operands st, memory g the machine comes to Q -/
def V {M : Type} (p : Program) (l : Launch) (e : Env) (R : Room) (s : State) (m : MethodId) (args : Array Value) (below : List Frame) (meth : Method) (c : Code) (nL : Nat) (D : va_G) (A : Nat → Prop) (ww : M → va_W) (Q : State → Prop) (pc : Nat) (lv : List (Nat × Value)) (st : List Value) (g : M) : Prop :=
  ∀ (H : Heap) (locs : List Loc) (ls : Array Slot), va_P D vwCl (ww g) H → va_S A s.heap H locs → lv_has ls nL lv → W p l e R s m args below meth c H locs 0 0 Q (F0 m pc ls st)
section FR
variable {M : Type} {p : Program} {l : Launch} {e : Env} {R : Room} {s : State} {m : MethodId} {args : Array Value} {below : List Frame} {meth : Method} {c : Code} {cc : ByteArray} {nL : Nat} {Ts : List Cond} {own : String} {ret : Option FieldType} {D : va_G} {yc : Nat → ClassId} {t1 t2 : Nat} {A : Nat → Prop} {ww : M → va_W} {Q : State → Prop} {pc : Nat} {lv : List (Nat × Value)} {st : List Value} {g : M}
theorem VC.hx (C : VC p s m args meth c cc nL Ts own ret D yc t1 t2 A ww) : p.tables.exec = Jvm.exec := C.1.1
theorem VC.hb (C : VC p s m args meth c cc nL Ts own ret D yc t1 t2 A ww) : c.code = cc := C.1.2.1
theorem VC.hml (C : VC p s m args meth c cc nL Ts own ret D yc t1 t2 A ww) : c.maxLocals = nL := C.1.2.2.1
theorem VC.hown (C : VC p s m args meth c cc nL Ts own ret D yc t1 t2 A ww) : s.vm.findClass own = some m.cls := C.1.2.2.2.1
theorem VC.hts (C : VC p s m args meth c cc nL Ts own ret D yc t1 t2 A ww) : ∀ w ∈ Ts, w.before args s = true := C.1.2.2.2.2
theorem VC.hK (C : VC p s m args meth c cc nL Ts own ret D yc t1 t2 A ww) : va_K D vwCl (ty5 yc) s := C.2.1
theorem VC.hD (C : VC p s m args meth c cc nL Ts own ret D yc t1 t2 A ww) : ∀ g, va_D A (ww g) := C.2.2.1
theorem VC.hF (C : VC p s m args meth c cc nL Ts own ret D yc t1 t2 A ww) : SF t1 t2 A s := C.2.2.2.1
theorem VC.hr (C : VC p s m args meth c cc nL Ts own ret D yc t1 t2 A ww) : meth.sig.returnType = ret := C.2.2.2.2.1
theorem VC.hlk (C : VC p s m args meth c cc nL Ts own ret D yc t1 t2 A ww) : meth.locks = false := C.2.2.2.2.2
theorem start_i {yn : MethodName} {ws ws' : List Cond} {rm : Room} {av : List Value} {post : Int32 → M → Prop} (hy : plainName yn.cls = true) (hw : ws = Cond.code yn cc nL ret :: ws') (ho : yn.cls = own) (hlen : (lg_sl av).length ≤ nL)
    (body : ∀ (p : Program) (e : Env) (s : State) (m : MethodId) (below : List Frame) (meth : Method) (c : Code), VC p s m av.toArray meth c cc nL ws own ret D yc t1 t2 A ww → V p l e rm s m av.toArray below meth c nL D A ww (MQ below (va_Qi post (fun g' t => va_P D vwCl (ww g') t.heap) A) av.toArray s 0 0 A) 0 (lv_args 0 av) [] g) : Ci l yn ws rm D yc t1 t2 A ww av g post := by
  refine Met.ofW (cc := cc) (maxL := nL) (ret := ret) hy hw ?_
  intro p e s m args below meth c s₁ B hml hv
  obtain ⟨rfl, hP, hK, hD, hF⟩ := hv
  have hown : s.vm.findClass own = some m.cls := by rw [← ho]; exact findClass_of_methodNamed B.named
  rw [lg_entry_eq]
  exact body p e s m below meth c ⟨⟨B.exec, B.bytes, hml, hown, atoms_spec (ws := ws) B.pre⟩, hK, hD, hF, B.returns, B.notSynchronized⟩ s.heap [] _ hP va_S.rf (lv_entry av hlen)
theorem start_l {yn : MethodName} {ws ws' : List Cond} {rm : Room} {av : List Value} {post : Int64 → M → Prop} (hy : plainName yn.cls = true) (hw : ws = Cond.code yn cc nL ret :: ws') (ho : yn.cls = own) (hlen : (lg_sl av).length ≤ nL)
    (body : ∀ (p : Program) (e : Env) (s : State) (m : MethodId) (below : List Frame) (meth : Method) (c : Code), VC p s m av.toArray meth c cc nL ws own ret D yc t1 t2 A ww → V p l e rm s m av.toArray below meth c nL D A ww (MQ below (va_Ql post (fun g' t => va_P D vwCl (ww g') t.heap) A) av.toArray s 0 0 A) 0 (lv_args 0 av) [] g) : Cl l yn ws rm D yc t1 t2 A ww av g post := by
  refine Met.ofW (cc := cc) (maxL := nL) (ret := ret) hy hw ?_
  intro p e s m args below meth c s₁ B hml hv
  obtain ⟨rfl, hP, hK, hD, hF⟩ := hv
  have hown : s.vm.findClass own = some m.cls := by rw [← ho]; exact findClass_of_methodNamed B.named
  rw [lg_entry_eq]
  exact body p e s m below meth c ⟨⟨B.exec, B.bytes, hml, hown, atoms_spec (ws := ws) B.pre⟩, hK, hD, hF, B.returns, B.notSynchronized⟩ s.heap [] _ hP va_S.rf (lv_entry av hlen)
theorem start_v {yn : MethodName} {ws ws' : List Cond} {rm : Room} {av : List Value} {post : M → Prop} (hy : plainName yn.cls = true) (hw : ws = Cond.code yn cc nL ret :: ws') (ho : yn.cls = own) (hlen : (lg_sl av).length ≤ nL)
    (body : ∀ (p : Program) (e : Env) (s : State) (m : MethodId) (below : List Frame) (meth : Method) (c : Code), VC p s m av.toArray meth c cc nL ws own ret D yc t1 t2 A ww → V p l e rm s m av.toArray below meth c nL D A ww (MQ below (va_Qv post (fun g' t => va_P D vwCl (ww g') t.heap) A) av.toArray s 0 0 A) 0 (lv_args 0 av) [] g) : Cv l yn ws rm D yc t1 t2 A ww av g post := by
  refine Met.ofW (cc := cc) (maxL := nL) (ret := ret) hy hw ?_
  intro p e s m args below meth c s₁ B hml hv
  obtain ⟨rfl, hP, hK, hD, hF⟩ := hv
  have hown : s.vm.findClass own = some m.cls := by rw [← ho]; exact findClass_of_methodNamed B.named
  rw [lg_entry_eq]
  exact body p e s m below meth c ⟨⟨B.exec, B.bytes, hml, hown, atoms_spec (ws := ws) B.pre⟩, hK, hD, hF, B.returns, B.notSynchronized⟩ s.heap [] _ hP va_S.rf (lv_entry av hlen)
theorem v_ret_i (C : VC p s m args meth c cc nL Ts own ret D yc t1 t2 A ww) {post : Int32 → M → Prop} {x : Int32} (hr : ret = some .int) (d : decode cc pc = .ok (.ireturn, 1)) (h : post x g) : V p l e R s m args below meth c nL D A ww (MQ below (va_Qi post (fun g' t => va_P D vwCl (ww g') t.heap) A) args s 0 0 A) pc lv [.int x] g := fun H locs ls hP hS hl => W.iret (v := x) C.hx C.hb (C.hr.trans hr) (fun t ht hW => ⟨⟨x, g, rfl, h, by show va_P D vwCl (ww g) t.heap; rw [ht]; exact hP⟩, hS.F ht⟩) hS.2.2 d C.hlk
theorem v_ret_z (C : VC p s m args meth c cc nL Ts own ret D yc t1 t2 A ww) {post : Int32 → M → Prop} {x : Int32} (hr : ret = some .boolean) (hx : x = 0 ∨ x = 1) (d : decode cc pc = .ok (.ireturn, 1)) (h : post x g) : V p l e R s m args below meth c nL D A ww (MQ below (va_Qi post (fun g' t => va_P D vwCl (ww g') t.heap) A) args s 0 0 A) pc lv [.int x] g := fun H locs ls hP hS hl => W.zret (v := x) C.hx C.hb (C.hr.trans hr) (by rcases hx with rfl | rfl <;> rfl) (fun t ht hW => ⟨⟨x, g, rfl, h, by show va_P D vwCl (ww g) t.heap; rw [ht]; exact hP⟩, hS.F ht⟩) hS.2.2 d C.hlk
theorem v_ret_l (C : VC p s m args meth c cc nL Ts own ret D yc t1 t2 A ww) {post : Int64 → M → Prop} {x : Int64} (hr : ret = some .long) (d : decode cc pc = .ok (.lreturn, 1)) (h : post x g) : V p l e R s m args below meth c nL D A ww (MQ below (va_Ql post (fun g' t => va_P D vwCl (ww g') t.heap) A) args s 0 0 A) pc lv [.long x] g := fun H locs ls hP hS hl => W.lret (v := x) C.hx C.hb (C.hr.trans hr) (fun t ht hW => ⟨⟨x, g, rfl, h, by show va_P D vwCl (ww g) t.heap; rw [ht]; exact hP⟩, hS.F ht⟩) hS.2.2 d C.hlk
theorem v_ret_v (C : VC p s m args meth c cc nL Ts own ret D yc t1 t2 A ww) {post : M → Prop} (hr : ret = none) (d : decode cc pc = .ok (.return_, 1)) (h : post g) : V p l e R s m args below meth c nL D A ww (MQ below (va_Qv post (fun g' t => va_P D vwCl (ww g') t.heap) A) args s 0 0 A) pc lv [] g := fun H locs ls hP hS hl => W.vret C.hx C.hb (C.hr.trans hr) (fun t ht hW => ⟨⟨g, rfl, h, by show va_P D vwCl (ww g) t.heap; rw [ht]; exact hP⟩, hS.F ht⟩) hS.2.2 d C.hlk
theorem v_st {st' : List Value} (h : st = st') (k : V p l e R s m args below meth c nL D A ww Q pc lv st' g) : V p l e R s m args below meth c nL D A ww Q pc lv st g := h ▸ k
theorem v_lv {lv' : List (Nat × Value)} (h : lv = lv') (k : V p l e R s m args below meth c nL D A ww Q pc lv' st g) : V p l e R s m args below meth c nL D A ww Q pc lv st g := h ▸ k
theorem v_g {g' : M} (h : g = g') (k : V p l e R s m args below meth c nL D A ww Q pc lv st g') : V p l e R s m args below meth c nL D A ww Q pc lv st g := h ▸ k
theorem v_sub {lv' : List (Nat × Value)} (ks : List Nat) (h : lv_pick lv ks = lv') (k : V p l e R s m args below meth c nL D A ww Q pc lv' st g) : V p l e R s m args below meth c nL D A ww Q pc lv st g := fun H locs ls hP hS hl => k H locs ls hP hS (lv_sub hl ks h)
theorem v_iconst (C : VC p s m args meth c cc nL Ts own ret D yc t1 t2 A ww) {n : Int} (d : decode cc pc = .ok (.iconst n, 1)) (k : V p l e R s m args below meth c nL D A ww Q (pc + 1) lv (.int (iI n) :: st) g) : V p l e R s m args below meth c nL D A ww Q pc lv st g := fun H locs ls hP hS hl => lv_iconst C.hx C.hb d rfl (k H locs ls hP hS hl)
theorem v_bipush (C : VC p s m args meth c cc nL Ts own ret D yc t1 t2 A ww) {n : Int} (d : decode cc pc = .ok (.bipush n, 2)) (hv : (Int8.ofInt n).toInt32 = iI n) (k : V p l e R s m args below meth c nL D A ww Q (pc + 2) lv (.int (iI n) :: st) g) : V p l e R s m args below meth c nL D A ww Q pc lv st g := fun H locs ls hP hS hl => lv_bipush C.hx C.hb d hv (k H locs ls hP hS hl)
theorem v_sipush (C : VC p s m args meth c cc nL Ts own ret D yc t1 t2 A ww) {n : Int} (d : decode cc pc = .ok (.sipush n, 3)) (hv : (Int16.ofInt n).toInt32 = iI n) (k : V p l e R s m args below meth c nL D A ww Q (pc + 3) lv (.int (iI n) :: st) g) : V p l e R s m args below meth c nL D A ww Q pc lv st g := fun H locs ls hP hS hl => lv_sipush C.hx C.hb d hv (k H locs ls hP hS hl)
theorem v_ldc (C : VC p s m args meth c cc nL Ts own ret D yc t1 t2 A ww) {index : Nat} {v : Int32} {z : Int} (hw : Cond.constant own index v ∈ Ts) (d : decode cc pc = .ok (.ldc index, 2)) (hv : v = iI z) (k : V p l e R s m args below meth c nL D A ww Q (pc + 2) lv (.int (iI z) :: st) g) : V p l e R s m args below meth c nL D A ww Q pc lv st g := fun H locs ls hP hS hl => lv_ldc C.hx C.hb C.hown (C.hts _ hw) d (hv ▸ k H locs ls hP hS hl)
theorem v_lconst (C : VC p s m args meth c cc nL Ts own ret D yc t1 t2 A ww) {n : Fin 2} {z : Int} (d : decode cc pc = .ok (.lconst n, 1)) (hv : Int64.ofNat (n : Nat) = lI z) (k : V p l e R s m args below meth c nL D A ww Q (pc + 1) lv (.long (lI z) :: st) g) : V p l e R s m args below meth c nL D A ww Q pc lv st g := fun H locs ls hP hS hl => lv_lconst C.hx C.hb d hv (k H locs ls hP hS hl)
theorem v_ldc2 (C : VC p s m args meth c cc nL Ts own ret D yc t1 t2 A ww) {index : Nat} {v : Int64} {z : Int} (hw : Cond.constantLong own index v ∈ Ts) (d : decode cc pc = .ok (.ldc2_w index, 3)) (hv : v = lI z) (k : V p l e R s m args below meth c nL D A ww Q (pc + 3) lv (.long (lI z) :: st) g) : V p l e R s m args below meth c nL D A ww Q pc lv st g := fun H locs ls hP hS hl => lv_ldc2 C.hx C.hb C.hown (C.hts _ hw) d (hv ▸ k H locs ls hP hS hl)
theorem v_iload_n (C : VC p s m args meth c cc nL Ts own ret D yc t1 t2 A ww) {k0 : Fin 4} {x : Int32} (j : Nat) (d : decode cc pc = .ok (.iload_n k0, 1)) (hj : lv[j]? = some ((k0 : Nat), .int x)) (k : V p l e R s m args below meth c nL D A ww Q (pc + 1) lv (.int x :: st) g) : V p l e R s m args below meth c nL D A ww Q pc lv st g := fun H locs ls hP hS hl => lv_iload_n C.hx C.hb d rfl (lv_at hl j hj) (k H locs ls hP hS hl)
theorem v_iload (C : VC p s m args meth c cc nL Ts own ret D yc t1 t2 A ww) {i : Nat} {x : Int32} (j : Nat) (d : decode cc pc = .ok (.iload i, 2)) (hj : lv[j]? = some (i, .int x)) (k : V p l e R s m args below meth c nL D A ww Q (pc + 2) lv (.int x :: st) g) : V p l e R s m args below meth c nL D A ww Q pc lv st g := fun H locs ls hP hS hl => lv_iload C.hx C.hb d (lv_at hl j hj) (k H locs ls hP hS hl)
theorem v_istore_n (C : VC p s m args meth c cc nL Ts own ret D yc t1 t2 A ww) {k0 : Fin 4} {x : Int32} {lv' : List (Nat × Value)} (d : decode cc pc = .ok (.istore_n k0, 1)) (hn : (k0 : Nat) < nL) (hl' : ((k0 : Nat), Value.int x) :: lv.filter (fun q => !(q.1 == (k0 : Nat)) && !(q.1 + 1 == (k0 : Nat) && q.2.category == 2)) = lv') (k : V p l e R s m args below meth c nL D A ww Q (pc + 1) lv' st g) : V p l e R s m args below meth c nL D A ww Q pc lv (.int x :: st) g := fun H locs ls hP hS hl => lv_istore_n C.hx C.hb d rfl hl hn hl' (fun ls' h' => k H locs ls' hP hS h')
theorem v_istore (C : VC p s m args meth c cc nL Ts own ret D yc t1 t2 A ww) {i : Nat} {x : Int32} {lv' : List (Nat × Value)} (d : decode cc pc = .ok (.istore i, 2)) (hn : i < nL) (hl' : (i, Value.int x) :: lv.filter (fun q => !(q.1 == i) && !(q.1 + 1 == i && q.2.category == 2)) = lv') (k : V p l e R s m args below meth c nL D A ww Q (pc + 2) lv' st g) : V p l e R s m args below meth c nL D A ww Q pc lv (.int x :: st) g := fun H locs ls hP hS hl => lv_istore C.hx C.hb d hl hn hl' (fun ls' h' => k H locs ls' hP hS h')
theorem v_lload_n (C : VC p s m args meth c cc nL Ts own ret D yc t1 t2 A ww) {k0 : Fin 4} {x : Int64} (j : Nat) (d : decode cc pc = .ok (.lload_n k0, 1)) (hj : lv[j]? = some ((k0 : Nat), .long x)) (k : V p l e R s m args below meth c nL D A ww Q (pc + 1) lv (.long x :: st) g) : V p l e R s m args below meth c nL D A ww Q pc lv st g := fun H locs ls hP hS hl => lv_lload_n C.hx C.hb d rfl (lv_at hl j hj) (k H locs ls hP hS hl)
theorem v_lload (C : VC p s m args meth c cc nL Ts own ret D yc t1 t2 A ww) {i : Nat} {x : Int64} (j : Nat) (d : decode cc pc = .ok (.lload i, 2)) (hj : lv[j]? = some (i, .long x)) (k : V p l e R s m args below meth c nL D A ww Q (pc + 2) lv (.long x :: st) g) : V p l e R s m args below meth c nL D A ww Q pc lv st g := fun H locs ls hP hS hl => lv_lload C.hx C.hb d (lv_at hl j hj) (k H locs ls hP hS hl)
theorem v_lstore_n (C : VC p s m args meth c cc nL Ts own ret D yc t1 t2 A ww) {k0 : Fin 4} {x : Int64} {lv' : List (Nat × Value)} (d : decode cc pc = .ok (.lstore_n k0, 1)) (hn : (k0 : Nat) + 1 < nL) (hl' : ((k0 : Nat), Value.long x) :: lv.filter (fun q => !(q.1 == (k0 : Nat)) && (!(q.1 == (k0 : Nat) + 1) && !(q.1 + 1 == (k0 : Nat) && q.2.category == 2))) = lv') (k : V p l e R s m args below meth c nL D A ww Q (pc + 1) lv' st g) : V p l e R s m args below meth c nL D A ww Q pc lv (.long x :: st) g := fun H locs ls hP hS hl => lv_lstore_n C.hx C.hb d rfl hl hn hl' (fun ls' h' => k H locs ls' hP hS h')
theorem v_lstore (C : VC p s m args meth c cc nL Ts own ret D yc t1 t2 A ww) {i : Nat} {x : Int64} {lv' : List (Nat × Value)} (d : decode cc pc = .ok (.lstore i, 2)) (hn : i + 1 < nL) (hl' : (i, Value.long x) :: lv.filter (fun q => !(q.1 == i) && (!(q.1 == i + 1) && !(q.1 + 1 == i && q.2.category == 2))) = lv') (k : V p l e R s m args below meth c nL D A ww Q (pc + 2) lv' st g) : V p l e R s m args below meth c nL D A ww Q pc lv (.long x :: st) g := fun H locs ls hP hS hl => lv_lstore C.hx C.hb d hl hn hl' (fun ls' h' => k H locs ls' hP hS h')
theorem v_aload_n (C : VC p s m args meth c cc nL Ts own ret D yc t1 t2 A ww) {k0 : Fin 4} {x : Nat} (j : Nat) (d : decode cc pc = .ok (.aload_n k0, 1)) (hj : lv[j]? = some ((k0 : Nat), .ref x)) (k : V p l e R s m args below meth c nL D A ww Q (pc + 1) lv (.ref x :: st) g) : V p l e R s m args below meth c nL D A ww Q pc lv st g := fun H locs ls hP hS hl => lv_aload_n C.hx C.hb d rfl (lv_at hl j hj) (k H locs ls hP hS hl)
theorem v_aload (C : VC p s m args meth c cc nL Ts own ret D yc t1 t2 A ww) {i : Nat} {x : Nat} (j : Nat) (d : decode cc pc = .ok (.aload i, 2)) (hj : lv[j]? = some (i, .ref x)) (k : V p l e R s m args below meth c nL D A ww Q (pc + 2) lv (.ref x :: st) g) : V p l e R s m args below meth c nL D A ww Q pc lv st g := fun H locs ls hP hS hl => lv_aload C.hx C.hb d (lv_at hl j hj) (k H locs ls hP hS hl)
theorem v_astore_n (C : VC p s m args meth c cc nL Ts own ret D yc t1 t2 A ww) {k0 : Fin 4} {x : Nat} {lv' : List (Nat × Value)} (d : decode cc pc = .ok (.astore_n k0, 1)) (hn : (k0 : Nat) < nL) (hl' : ((k0 : Nat), Value.ref x) :: lv.filter (fun q => !(q.1 == (k0 : Nat)) && !(q.1 + 1 == (k0 : Nat) && q.2.category == 2)) = lv') (k : V p l e R s m args below meth c nL D A ww Q (pc + 1) lv' st g) : V p l e R s m args below meth c nL D A ww Q pc lv (.ref x :: st) g := fun H locs ls hP hS hl => lv_astore_n C.hx C.hb d rfl hl hn hl' (fun ls' h' => k H locs ls' hP hS h')
theorem v_astore (C : VC p s m args meth c cc nL Ts own ret D yc t1 t2 A ww) {i : Nat} {x : Nat} {lv' : List (Nat × Value)} (d : decode cc pc = .ok (.astore i, 2)) (hn : i < nL) (hl' : (i, Value.ref x) :: lv.filter (fun q => !(q.1 == i) && !(q.1 + 1 == i && q.2.category == 2)) = lv') (k : V p l e R s m args below meth c nL D A ww Q (pc + 2) lv' st g) : V p l e R s m args below meth c nL D A ww Q pc lv (.ref x :: st) g := fun H locs ls hP hS hl => lv_astore C.hx C.hb d hl hn hl' (fun ls' h' => k H locs ls' hP hS h')
theorem v_iinc (C : VC p s m args meth c cc nL Ts own ret D yc t1 t2 A ww) {i : Nat} {n z z' : Int} {lv' : List (Nat × Value)} (j : Nat) (d : decode cc pc = .ok (.iinc i n, 3)) (hj : lv[j]? = some (i, .int (iI z))) (hz : z + n = z') (hn : i < nL) (hl' : (i, Value.int (iI z')) :: lv.filter (fun q => !(q.1 == i) && !(q.1 + 1 == i && q.2.category == 2)) = lv') (k : V p l e R s m args below meth c nL D A ww Q (pc + 3) lv' st g) : V p l e R s m args below meth c nL D A ww Q pc lv st g := fun H locs ls hP hS hl => lv_iinc (v := iI z') C.hx C.hb d hl hj (by rw [← hz]; exact iI_add z n) hn hl' (fun ls' h' => k H locs ls' hP hS h')
theorem v_dup (C : VC p s m args meth c cc nL Ts own ret D yc t1 t2 A ww) {va : Value} (d : decode cc pc = .ok (.dup, 1)) (h : va.category = 1) (k : V p l e R s m args below meth c nL D A ww Q (pc + 1) lv (va :: va :: st) g) : V p l e R s m args below meth c nL D A ww Q pc lv (va :: st) g := fun H locs ls hP hS hl => lv_dup C.hx C.hb d h (k H locs ls hP hS hl)
theorem v_dup2 (C : VC p s m args meth c cc nL Ts own ret D yc t1 t2 A ww) {va vb : Value} (d : decode cc pc = .ok (.dup2, 1)) (h : va.category = 1) (h2 : vb.category = 1) (k : V p l e R s m args below meth c nL D A ww Q (pc + 1) lv (va :: vb :: va :: vb :: st) g) : V p l e R s m args below meth c nL D A ww Q pc lv (va :: vb :: st) g := fun H locs ls hP hS hl => lv_dup2_11 C.hx C.hb d h h2 (k H locs ls hP hS hl)
theorem v_dup_x1 (C : VC p s m args meth c cc nL Ts own ret D yc t1 t2 A ww) {va vb : Value} (d : decode cc pc = .ok (.dup_x1, 1)) (h : va.category = 1) (h2 : vb.category = 1) (k : V p l e R s m args below meth c nL D A ww Q (pc + 1) lv (va :: vb :: va :: st) g) : V p l e R s m args below meth c nL D A ww Q pc lv (va :: vb :: st) g := fun H locs ls hP hS hl => lv_dup_x1 C.hx C.hb d h h2 (k H locs ls hP hS hl)
theorem v_goto (C : VC p s m args meth c cc nL Ts own ret D yc t1 t2 A ww) {off : Int} {tgt : Nat} (d : decode cc pc = .ok (.goto off, 3)) (ht : (pc : Int) + off = (tgt : Int)) (k : V p l e R s m args below meth c nL D A ww Q tgt lv st g) : V p l e R s m args below meth c nL D A ww Q pc lv st g := fun H locs ls hP hS hl => lv_goto C.hx C.hb d ht (k H locs ls hP hS hl)
theorem v_iadd (C : VC p s m args meth c cc nL Ts own ret D yc t1 t2 A ww) {x y : Int} (d : decode cc pc = .ok (.iadd, 1)) (k : V p l e R s m args below meth c nL D A ww Q (pc + 1) lv (.int (iI (x + y)) :: st) g) : V p l e R s m args below meth c nL D A ww Q pc lv (.int (iI y) :: .int (iI x) :: st) g := fun H locs ls hP hS hl => lv_iadd C.hx C.hb d (iI_add x y ▸ k H locs ls hP hS hl)
theorem v_ladd (C : VC p s m args meth c cc nL Ts own ret D yc t1 t2 A ww) {x y : Int} (d : decode cc pc = .ok (.ladd, 1)) (k : V p l e R s m args below meth c nL D A ww Q (pc + 1) lv (.long (lI (x + y)) :: st) g) : V p l e R s m args below meth c nL D A ww Q pc lv (.long (lI y) :: .long (lI x) :: st) g := fun H locs ls hP hS hl => lv_ladd C.hx C.hb d (lI_add x y ▸ k H locs ls hP hS hl)
theorem v_isub (C : VC p s m args meth c cc nL Ts own ret D yc t1 t2 A ww) {x y : Int} (d : decode cc pc = .ok (.isub, 1)) (k : V p l e R s m args below meth c nL D A ww Q (pc + 1) lv (.int (iI (x - y)) :: st) g) : V p l e R s m args below meth c nL D A ww Q pc lv (.int (iI y) :: .int (iI x) :: st) g := fun H locs ls hP hS hl => lv_isub C.hx C.hb d (iI_sub x y ▸ k H locs ls hP hS hl)
theorem v_lsub (C : VC p s m args meth c cc nL Ts own ret D yc t1 t2 A ww) {x y : Int} (d : decode cc pc = .ok (.lsub, 1)) (k : V p l e R s m args below meth c nL D A ww Q (pc + 1) lv (.long (lI (x - y)) :: st) g) : V p l e R s m args below meth c nL D A ww Q pc lv (.long (lI y) :: .long (lI x) :: st) g := fun H locs ls hP hS hl => lv_lsub C.hx C.hb d (lI_sub x y ▸ k H locs ls hP hS hl)
theorem v_imul (C : VC p s m args meth c cc nL Ts own ret D yc t1 t2 A ww) {x y : Int} (d : decode cc pc = .ok (.imul, 1)) (k : V p l e R s m args below meth c nL D A ww Q (pc + 1) lv (.int (iI (x * y)) :: st) g) : V p l e R s m args below meth c nL D A ww Q pc lv (.int (iI y) :: .int (iI x) :: st) g := fun H locs ls hP hS hl => lv_imul C.hx C.hb d (iI_mul x y ▸ k H locs ls hP hS hl)
theorem v_lmul (C : VC p s m args meth c cc nL Ts own ret D yc t1 t2 A ww) {x y : Int} (d : decode cc pc = .ok (.lmul, 1)) (k : V p l e R s m args below meth c nL D A ww Q (pc + 1) lv (.long (lI (x * y)) :: st) g) : V p l e R s m args below meth c nL D A ww Q pc lv (.long (lI y) :: .long (lI x) :: st) g := fun H locs ls hP hS hl => lv_lmul C.hx C.hb d (lI_mul x y ▸ k H locs ls hP hS hl)
theorem v_ineg (C : VC p s m args meth c cc nL Ts own ret D yc t1 t2 A ww) {x : Int} (d : decode cc pc = .ok (.ineg, 1)) (k : V p l e R s m args below meth c nL D A ww Q (pc + 1) lv (.int (iI (-x)) :: st) g) : V p l e R s m args below meth c nL D A ww Q pc lv (.int (iI x) :: st) g := fun H locs ls hP hS hl => lv_ineg C.hx C.hb d (iI_neg x ▸ k H locs ls hP hS hl)
theorem iI_div {x y : Int} (h0 : 0 ≤ x) (hx : x < 2147483648) (h1 : 0 < y) (hy : y < 2147483648) : iI x / iI y = iI (x / y) := by
  obtain ⟨a, rfl⟩ := Int.eq_ofNat_of_zero_le h0
  obtain ⟨b, rfl⟩ := Int.eq_ofNat_of_zero_le (Int.le_of_lt h1)
  have e := pk_div (a := a) (d := b) (by omega) (by omega) (by omega)
  have f : ∀ n : Nat, nI n = iI (n : Int) := fun n => (Int32.ofInt_eq_ofNat).symm
  rw [f, f, f] at e
  rw [e]; rfl
theorem iI_rem {x y : Int} (h0 : 0 ≤ x) (hx : x < 2147483648) (h1 : 0 < y) (hy : y < 2147483648) : iI x - iI x / iI y * iI y = iI (x % y) := by
  rw [iI_div h0 hx h1 hy, iI_mul, iI_sub]
  congr 1
  have := Int.mul_ediv_add_emod x y
  rw [Int.mul_comm (x / y) y]
  omega
theorem v_idiv (C : VC p s m args meth c cc nL Ts own ret D yc t1 t2 A ww) {x y : Int} (d : decode cc pc = .ok (.idiv, 1)) (h0 : 0 ≤ x) (hx : x < 2147483648) (h1 : 0 < y) (hy : y < 2147483648) (k : V p l e R s m args below meth c nL D A ww Q (pc + 1) lv (.int (iI (x / y)) :: st) g) : V p l e R s m args below meth c nL D A ww Q pc lv (.int (iI y) :: .int (iI x) :: st) g := fun H locs ls hP hS hl => lv_idiv C.hx C.hb d (fun h => by have := (iI_inj (b := 0) ⟨by omega, hy⟩ ⟨by omega, by omega⟩).mp h; omega) (iI_div h0 hx h1 hy ▸ k H locs ls hP hS hl)
theorem v_irem (C : VC p s m args meth c cc nL Ts own ret D yc t1 t2 A ww) {x y : Int} (d : decode cc pc = .ok (.irem, 1)) (h0 : 0 ≤ x) (hx : x < 2147483648) (h1 : 0 < y) (hy : y < 2147483648) (k : V p l e R s m args below meth c nL D A ww Q (pc + 1) lv (.int (iI (x % y)) :: st) g) : V p l e R s m args below meth c nL D A ww Q pc lv (.int (iI y) :: .int (iI x) :: st) g := fun H locs ls hP hS hl => lv_irem C.hx C.hb d (fun h => by have := (iI_inj (b := 0) ⟨by omega, hy⟩ ⟨by omega, by omega⟩).mp h; omega) (iI_rem h0 hx h1 hy ▸ k H locs ls hP hS hl)
theorem v_i2l (C : VC p s m args meth c cc nL Ts own ret D yc t1 t2 A ww) {x : Int} (d : decode cc pc = .ok (.i2l, 1)) (h : R32 x) (k : V p l e R s m args below meth c nL D A ww Q (pc + 1) lv (.long (lI x) :: st) g) : V p l e R s m args below meth c nL D A ww Q pc lv (.int (iI x) :: st) g := fun H locs ls hP hS hl => lv_i2l C.hx C.hb d (iI_l h) (k H locs ls hP hS hl)
theorem v_l2i (C : VC p s m args meth c cc nL Ts own ret D yc t1 t2 A ww) {x : Int} (d : decode cc pc = .ok (.l2i, 1)) (k : V p l e R s m args below meth c nL D A ww Q (pc + 1) lv (.int (iI x) :: st) g) : V p l e R s m args below meth c nL D A ww Q pc lv (.long (lI x) :: st) g := fun H locs ls hP hS hl => lv_l2i C.hx C.hb d (lI_i x) (k H locs ls hP hS hl)
theorem v_iand (C : VC p s m args meth c cc nL Ts own ret D yc t1 t2 A ww) {x y z : Int32} (d : decode cc pc = .ok (.iand, 1)) (h : x &&& y = z) (k : V p l e R s m args below meth c nL D A ww Q (pc + 1) lv (.int z :: st) g) : V p l e R s m args below meth c nL D A ww Q pc lv (.int y :: .int x :: st) g := fun H locs ls hP hS hl => lv_iand C.hx C.hb d (h ▸ k H locs ls hP hS hl)
theorem v_ior (C : VC p s m args meth c cc nL Ts own ret D yc t1 t2 A ww) {x y z : Int32} (d : decode cc pc = .ok (.ior, 1)) (h : x ||| y = z) (k : V p l e R s m args below meth c nL D A ww Q (pc + 1) lv (.int z :: st) g) : V p l e R s m args below meth c nL D A ww Q pc lv (.int y :: .int x :: st) g := fun H locs ls hP hS hl => lv_ior C.hx C.hb d (h ▸ k H locs ls hP hS hl)
theorem v_ixor (C : VC p s m args meth c cc nL Ts own ret D yc t1 t2 A ww) {x y z : Int32} (d : decode cc pc = .ok (.ixor, 1)) (h : x ^^^ y = z) (k : V p l e R s m args below meth c nL D A ww Q (pc + 1) lv (.int z :: st) g) : V p l e R s m args below meth c nL D A ww Q pc lv (.int y :: .int x :: st) g := fun H locs ls hP hS hl => lv_ixor C.hx C.hb d (h ▸ k H locs ls hP hS hl)
theorem v_ishl (C : VC p s m args meth c cc nL Ts own ret D yc t1 t2 A ww) {x y z : Int32} (d : decode cc pc = .ok (.ishl, 1)) (h : x <<< (y &&& 31) = z) (k : V p l e R s m args below meth c nL D A ww Q (pc + 1) lv (.int z :: st) g) : V p l e R s m args below meth c nL D A ww Q pc lv (.int y :: .int x :: st) g := fun H locs ls hP hS hl => lv_ishl C.hx C.hb d (h ▸ k H locs ls hP hS hl)
theorem v_ishr (C : VC p s m args meth c cc nL Ts own ret D yc t1 t2 A ww) {x y z : Int32} (d : decode cc pc = .ok (.ishr, 1)) (h : x >>> (y &&& 31) = z) (k : V p l e R s m args below meth c nL D A ww Q (pc + 1) lv (.int z :: st) g) : V p l e R s m args below meth c nL D A ww Q pc lv (.int y :: .int x :: st) g := fun H locs ls hP hS hl => lv_ishr C.hx C.hb d (h ▸ k H locs ls hP hS hl)
theorem v_iushr (C : VC p s m args meth c cc nL Ts own ret D yc t1 t2 A ww) {x y z : Int32} (d : decode cc pc = .ok (.iushr, 1)) (h : (x.toUInt32 >>> (y.toUInt32 &&& Int32.toUInt32 31)).toInt32 = z) (k : V p l e R s m args below meth c nL D A ww Q (pc + 1) lv (.int z :: st) g) : V p l e R s m args below meth c nL D A ww Q pc lv (.int y :: .int x :: st) g := fun H locs ls hP hS hl => lv_iushr C.hx C.hb d h (k H locs ls hP hS hl)
theorem v_lshl (C : VC p s m args meth c cc nL Ts own ret D yc t1 t2 A ww) {x z : Int64} {y : Int32} (d : decode cc pc = .ok (.lshl, 1)) (h : x <<< (y.toInt64 &&& 63) = z) (k : V p l e R s m args below meth c nL D A ww Q (pc + 1) lv (.long z :: st) g) : V p l e R s m args below meth c nL D A ww Q pc lv (.int y :: .long x :: st) g := fun H locs ls hP hS hl => lv_lshl C.hx C.hb d h (k H locs ls hP hS hl)
theorem v_ldivR (C : VC p s m args meth c cc nL Ts own ret D yc t1 t2 A ww) {x y z : Int64} (d : decode cc pc = .ok (.ldiv, 1)) (hne : ¬ y = 0) (h : x / y = z) (k : V p l e R s m args below meth c nL D A ww Q (pc + 1) lv (.long z :: st) g) : V p l e R s m args below meth c nL D A ww Q pc lv (.long y :: .long x :: st) g := fun H locs ls hP hS hl => lv_ldiv C.hx C.hb d hne (h ▸ k H locs ls hP hS hl)
theorem v_lremR (C : VC p s m args meth c cc nL Ts own ret D yc t1 t2 A ww) {x y z : Int64} (d : decode cc pc = .ok (.lrem, 1)) (hne : ¬ y = 0) (h : x - x / y * y = z) (k : V p l e R s m args below meth c nL D A ww Q (pc + 1) lv (.long z :: st) g) : V p l e R s m args below meth c nL D A ww Q pc lv (.long y :: .long x :: st) g := fun H locs ls hP hS hl => lv_lrem C.hx C.hb d hne (h ▸ k H locs ls hP hS hl)
theorem v_l2iR (C : VC p s m args meth c cc nL Ts own ret D yc t1 t2 A ww) {x : Int64} {z : Int32} (d : decode cc pc = .ok (.l2i, 1)) (h : x.toInt32 = z) (k : V p l e R s m args below meth c nL D A ww Q (pc + 1) lv (.int z :: st) g) : V p l e R s m args below meth c nL D A ww Q pc lv (.long x :: st) g := fun H locs ls hP hS hl => lv_l2i C.hx C.hb d h (k H locs ls hP hS hl)
theorem v_i2b (C : VC p s m args meth c cc nL Ts own ret D yc t1 t2 A ww) {x z : Int32} (d : decode cc pc = .ok (.i2b, 1)) (h : x.toInt8.toInt32 = z) (k : V p l e R s m args below meth c nL D A ww Q (pc + 1) lv (.int z :: st) g) : V p l e R s m args below meth c nL D A ww Q pc lv (.int x :: st) g := fun H locs ls hP hS hl => lv_i2b C.hx C.hb d h (k H locs ls hP hS hl)
theorem lg_cmp_cases (x y : Int64) : (x < y ∧ lg_cmp x y = iI (-1)) ∨ (x = y ∧ lg_cmp x y = iI 0) ∨ (y < x ∧ lg_cmp x y = iI 1) := by
  unfold lg_cmp
  by_cases h : x > y
  · rw [if_pos h]; exact Or.inr (Or.inr ⟨h, rfl⟩)
  · rw [if_neg h]
    by_cases h2 : x = y
    · rw [if_pos h2]; exact Or.inr (Or.inl ⟨h2, rfl⟩)
    · rw [if_neg h2]
      refine Or.inl ⟨?_, rfl⟩
      rw [gt_iff_lt, Int64.lt_iff_toInt_lt] at h
      rw [Int64.lt_iff_toInt_lt]
      have h3 : x.toInt ≠ y.toInt := fun q => h2 (Int64.toInt_inj.mp q)
      omega
theorem v_lcmp (C : VC p s m args meth c cc nL Ts own ret D yc t1 t2 A ww) {x y : Int} (hx : R64 x) (hy : R64 y) (d : decode cc pc = .ok (.lcmp, 1)) (k1 : x < y → V p l e R s m args below meth c nL D A ww Q (pc + 1) lv (.int (iI (-1)) :: st) g) (k2 : x = y → V p l e R s m args below meth c nL D A ww Q (pc + 1) lv (.int (iI 0) :: st) g) (k3 : y < x → V p l e R s m args below meth c nL D A ww Q (pc + 1) lv (.int (iI 1) :: st) g) : V p l e R s m args below meth c nL D A ww Q pc lv (.long (lI y) :: .long (lI x) :: st) g := by
  intro H locs ls hP hS hl
  refine W.lcmp C.hx C.hb d ?_
  rcases lg_cmp_cases (lI x) (lI y) with ⟨h, q⟩ | ⟨h, q⟩ | ⟨h, q⟩ <;> rw [q]
  · exact k1 ((lI_lt hx hy).mp h) H locs ls hP hS hl
  · exact k2 ((lI_inj hx hy).mp h) H locs ls hP hS hl
  · exact k3 ((lI_lt hy hx).mp h) H locs ls hP hS hl
theorem v_icmp_eq (C : VC p s m args meth c cc nL Ts own ret D yc t1 t2 A ww) {x y off : Int} {tgt : Nat} (d : decode cc pc = .ok (.if_icmp .eq off, 3)) (ht : (pc : Int) + off = (tgt : Int)) (hx : R32 x) (hy : R32 y) (kt : x = y → V p l e R s m args below meth c nL D A ww Q tgt lv st g) (kf : ¬ x = y → V p l e R s m args below meth c nL D A ww Q (pc + 3) lv st g) : V p l e R s m args below meth c nL D A ww Q pc lv (.int (iI y) :: .int (iI x) :: st) g := fun H locs ls hP hS hl => lv_icmp_eq C.hx C.hb d ht (fun h => kt ((iI_inj hx hy).mp h) H locs ls hP hS hl) (fun h => kf (fun q => h ((iI_inj hx hy).mpr q)) H locs ls hP hS hl)
theorem v_if_eq (C : VC p s m args meth c cc nL Ts own ret D yc t1 t2 A ww) {x off : Int} {tgt : Nat} (d : decode cc pc = .ok (.ifCond .eq off, 3)) (ht : (pc : Int) + off = (tgt : Int)) (hx : R32 x) (kt : x = 0 → V p l e R s m args below meth c nL D A ww Q tgt lv st g) (kf : ¬ x = 0 → V p l e R s m args below meth c nL D A ww Q (pc + 3) lv st g) : V p l e R s m args below meth c nL D A ww Q pc lv (.int (iI x) :: st) g := fun H locs ls hP hS hl => by
  have hy : R32 0 := ⟨by omega, by omega⟩
  exact lv_if_eq C.hx C.hb d ht (fun h => kt ((iI_inj hx hy).mp h) H locs ls hP hS hl) (fun h => kf (fun q => h ((iI_inj hx hy).mpr q)) H locs ls hP hS hl)
theorem v_icmp_ne (C : VC p s m args meth c cc nL Ts own ret D yc t1 t2 A ww) {x y off : Int} {tgt : Nat} (d : decode cc pc = .ok (.if_icmp .ne off, 3)) (ht : (pc : Int) + off = (tgt : Int)) (hx : R32 x) (hy : R32 y) (kt : ¬ x = y → V p l e R s m args below meth c nL D A ww Q tgt lv st g) (kf : x = y → V p l e R s m args below meth c nL D A ww Q (pc + 3) lv st g) : V p l e R s m args below meth c nL D A ww Q pc lv (.int (iI y) :: .int (iI x) :: st) g := fun H locs ls hP hS hl => lv_icmp_ne C.hx C.hb d ht (fun h => kt (fun q => h ((iI_inj hx hy).mpr q)) H locs ls hP hS hl) (fun h => kf ((iI_inj hx hy).mp h) H locs ls hP hS hl)
theorem v_if_ne (C : VC p s m args meth c cc nL Ts own ret D yc t1 t2 A ww) {x off : Int} {tgt : Nat} (d : decode cc pc = .ok (.ifCond .ne off, 3)) (ht : (pc : Int) + off = (tgt : Int)) (hx : R32 x) (kt : ¬ x = 0 → V p l e R s m args below meth c nL D A ww Q tgt lv st g) (kf : x = 0 → V p l e R s m args below meth c nL D A ww Q (pc + 3) lv st g) : V p l e R s m args below meth c nL D A ww Q pc lv (.int (iI x) :: st) g := fun H locs ls hP hS hl => by
  have hy : R32 0 := ⟨by omega, by omega⟩
  exact lv_if_ne C.hx C.hb d ht (fun h => kt (fun q => h ((iI_inj hx hy).mpr q)) H locs ls hP hS hl) (fun h => kf ((iI_inj hx hy).mp h) H locs ls hP hS hl)
theorem v_icmp_lt (C : VC p s m args meth c cc nL Ts own ret D yc t1 t2 A ww) {x y off : Int} {tgt : Nat} (d : decode cc pc = .ok (.if_icmp .lt off, 3)) (ht : (pc : Int) + off = (tgt : Int)) (hx : R32 x) (hy : R32 y) (kt : x < y → V p l e R s m args below meth c nL D A ww Q tgt lv st g) (kf : y ≤ x → V p l e R s m args below meth c nL D A ww Q (pc + 3) lv st g) : V p l e R s m args below meth c nL D A ww Q pc lv (.int (iI y) :: .int (iI x) :: st) g := fun H locs ls hP hS hl => lv_icmp_lt C.hx C.hb d ht (fun h => kt ((iI_lt hx hy).mp h) H locs ls hP hS hl) (fun h => kf (Int.not_lt.mp (fun q => h ((iI_lt hx hy).mpr q))) H locs ls hP hS hl)
theorem v_if_lt (C : VC p s m args meth c cc nL Ts own ret D yc t1 t2 A ww) {x off : Int} {tgt : Nat} (d : decode cc pc = .ok (.ifCond .lt off, 3)) (ht : (pc : Int) + off = (tgt : Int)) (hx : R32 x) (kt : x < 0 → V p l e R s m args below meth c nL D A ww Q tgt lv st g) (kf : 0 ≤ x → V p l e R s m args below meth c nL D A ww Q (pc + 3) lv st g) : V p l e R s m args below meth c nL D A ww Q pc lv (.int (iI x) :: st) g := fun H locs ls hP hS hl => by
  have hy : R32 0 := ⟨by omega, by omega⟩
  exact lv_if_lt C.hx C.hb d ht (fun h => kt ((iI_lt hx hy).mp h) H locs ls hP hS hl) (fun h => kf (Int.not_lt.mp (fun q => h ((iI_lt hx hy).mpr q))) H locs ls hP hS hl)
theorem v_icmp_ge (C : VC p s m args meth c cc nL Ts own ret D yc t1 t2 A ww) {x y off : Int} {tgt : Nat} (d : decode cc pc = .ok (.if_icmp .ge off, 3)) (ht : (pc : Int) + off = (tgt : Int)) (hx : R32 x) (hy : R32 y) (kt : y ≤ x → V p l e R s m args below meth c nL D A ww Q tgt lv st g) (kf : x < y → V p l e R s m args below meth c nL D A ww Q (pc + 3) lv st g) : V p l e R s m args below meth c nL D A ww Q pc lv (.int (iI y) :: .int (iI x) :: st) g := fun H locs ls hP hS hl => lv_icmp_ge C.hx C.hb d ht (fun h => kt ((iI_le hy hx).mp h) H locs ls hP hS hl) (fun h => kf (Int.not_le.mp (fun q => h ((iI_le hy hx).mpr q))) H locs ls hP hS hl)
theorem v_if_ge (C : VC p s m args meth c cc nL Ts own ret D yc t1 t2 A ww) {x off : Int} {tgt : Nat} (d : decode cc pc = .ok (.ifCond .ge off, 3)) (ht : (pc : Int) + off = (tgt : Int)) (hx : R32 x) (kt : 0 ≤ x → V p l e R s m args below meth c nL D A ww Q tgt lv st g) (kf : x < 0 → V p l e R s m args below meth c nL D A ww Q (pc + 3) lv st g) : V p l e R s m args below meth c nL D A ww Q pc lv (.int (iI x) :: st) g := fun H locs ls hP hS hl => by
  have hy : R32 0 := ⟨by omega, by omega⟩
  exact lv_if_ge C.hx C.hb d ht (fun h => kt ((iI_le hy hx).mp h) H locs ls hP hS hl) (fun h => kf (Int.not_le.mp (fun q => h ((iI_le hy hx).mpr q))) H locs ls hP hS hl)
theorem v_icmp_gt (C : VC p s m args meth c cc nL Ts own ret D yc t1 t2 A ww) {x y off : Int} {tgt : Nat} (d : decode cc pc = .ok (.if_icmp .gt off, 3)) (ht : (pc : Int) + off = (tgt : Int)) (hx : R32 x) (hy : R32 y) (kt : y < x → V p l e R s m args below meth c nL D A ww Q tgt lv st g) (kf : x ≤ y → V p l e R s m args below meth c nL D A ww Q (pc + 3) lv st g) : V p l e R s m args below meth c nL D A ww Q pc lv (.int (iI y) :: .int (iI x) :: st) g := fun H locs ls hP hS hl => lv_icmp_gt C.hx C.hb d ht (fun h => kt ((iI_lt hy hx).mp h) H locs ls hP hS hl) (fun h => kf (Int.not_lt.mp (fun q => h ((iI_lt hy hx).mpr q))) H locs ls hP hS hl)
theorem v_if_gt (C : VC p s m args meth c cc nL Ts own ret D yc t1 t2 A ww) {x off : Int} {tgt : Nat} (d : decode cc pc = .ok (.ifCond .gt off, 3)) (ht : (pc : Int) + off = (tgt : Int)) (hx : R32 x) (kt : 0 < x → V p l e R s m args below meth c nL D A ww Q tgt lv st g) (kf : x ≤ 0 → V p l e R s m args below meth c nL D A ww Q (pc + 3) lv st g) : V p l e R s m args below meth c nL D A ww Q pc lv (.int (iI x) :: st) g := fun H locs ls hP hS hl => by
  have hy : R32 0 := ⟨by omega, by omega⟩
  exact lv_if_gt C.hx C.hb d ht (fun h => kt ((iI_lt hy hx).mp h) H locs ls hP hS hl) (fun h => kf (Int.not_lt.mp (fun q => h ((iI_lt hy hx).mpr q))) H locs ls hP hS hl)
theorem v_icmp_le (C : VC p s m args meth c cc nL Ts own ret D yc t1 t2 A ww) {x y off : Int} {tgt : Nat} (d : decode cc pc = .ok (.if_icmp .le off, 3)) (ht : (pc : Int) + off = (tgt : Int)) (hx : R32 x) (hy : R32 y) (kt : x ≤ y → V p l e R s m args below meth c nL D A ww Q tgt lv st g) (kf : y < x → V p l e R s m args below meth c nL D A ww Q (pc + 3) lv st g) : V p l e R s m args below meth c nL D A ww Q pc lv (.int (iI y) :: .int (iI x) :: st) g := fun H locs ls hP hS hl => lv_icmp_le C.hx C.hb d ht (fun h => kt ((iI_le hx hy).mp h) H locs ls hP hS hl) (fun h => kf (Int.not_le.mp (fun q => h ((iI_le hx hy).mpr q))) H locs ls hP hS hl)
theorem v_if_le (C : VC p s m args meth c cc nL Ts own ret D yc t1 t2 A ww) {x off : Int} {tgt : Nat} (d : decode cc pc = .ok (.ifCond .le off, 3)) (ht : (pc : Int) + off = (tgt : Int)) (hx : R32 x) (kt : x ≤ 0 → V p l e R s m args below meth c nL D A ww Q tgt lv st g) (kf : 0 < x → V p l e R s m args below meth c nL D A ww Q (pc + 3) lv st g) : V p l e R s m args below meth c nL D A ww Q pc lv (.int (iI x) :: st) g := fun H locs ls hP hS hl => by
  have hy : R32 0 := ⟨by omega, by omega⟩
  exact lv_if_le C.hx C.hb d ht (fun h => kt ((iI_le hx hy).mp h) H locs ls hP hS hl) (fun h => kf (Int.not_le.mp (fun q => h ((iI_le hx hy).mpr q))) H locs ls hP hS hl)
theorem v_ifb_eq (C : VC p s m args meth c cc nL Ts own ret D yc t1 t2 A ww) {P : Prop} [Decidable P] {off : Int} {tgt : Nat} (d : decode cc pc = .ok (.ifCond .eq off, 3)) (ht : (pc : Int) + off = (tgt : Int)) (kt : ¬ P → V p l e R s m args below meth c nL D A ww Q tgt lv st g) (kf : P → V p l e R s m args below meth c nL D A ww Q (pc + 3) lv st g) : V p l e R s m args below meth c nL D A ww Q pc lv (.int (bI P) :: st) g := fun H locs ls hP hS hl => lv_if_eq C.hx C.hb d ht (fun h => kt (fun q => by rw [bI, if_pos q] at h; exact absurd h (by decide)) H locs ls hP hS hl) (fun h => kf (Classical.byContradiction fun q => by rw [bI, if_neg q] at h; exact h rfl) H locs ls hP hS hl)
theorem v_ifb_ne (C : VC p s m args meth c cc nL Ts own ret D yc t1 t2 A ww) {P : Prop} [Decidable P] {off : Int} {tgt : Nat} (d : decode cc pc = .ok (.ifCond .ne off, 3)) (ht : (pc : Int) + off = (tgt : Int)) (kt : P → V p l e R s m args below meth c nL D A ww Q tgt lv st g) (kf : ¬ P → V p l e R s m args below meth c nL D A ww Q (pc + 3) lv st g) : V p l e R s m args below meth c nL D A ww Q pc lv (.int (bI P) :: st) g := fun H locs ls hP hS hl => lv_if_ne C.hx C.hb d ht (fun h => kt (Classical.byContradiction fun q => by rw [bI, if_neg q] at h; exact h rfl) H locs ls hP hS hl) (fun h => kf (fun q => by rw [bI, if_pos q] at h; exact absurd h (by decide)) H locs ls hP hS hl)
end FR
