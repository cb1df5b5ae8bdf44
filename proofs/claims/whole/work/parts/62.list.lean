/-! Worlds as lists: what constructors make. -/
abbrev Lw (A : Nat → Prop) : Type := {ws : va_W // va_D A ws}
abbrev lw (A : Nat → Prop) : Lw A → va_W := fun g => g.1
/-- arrays of Beasts, Farms, Rows can be made -/
def AOs (U : State) : Prop := va_AO RX0 U ∧ va_AO RX1 U ∧ va_AO RX3 U
theorem AOs.moved {u U : State} (hvm : u.vm.Alike U.vm) (h : AOs u) : AOs U := ⟨va_AO.moved hvm h.1, va_AO.moved hvm h.2.1, va_AO.moved hvm h.2.2⟩
abbrev eF (x1 x2 x3 x4 x5 : Nat) : va_E := .inr (1, [.ref x1, .ref x2, .ref x3, .ref x4, .ref x5, .int 0, .int 0, .int 0, .int 0, .int 0, .int 0])
abbrev eB : va_E := .inr (0, [.int 0, .int 0, .int 0, .int 0, .int 0])
abbrev eI (yc : Nat → ClassId) (n : Nat) : va_E := .inl (yc 0, n, .inl (fun _ => 0))
abbrev eQ (yc : Nat → ClassId) (t n : Nat) (f : Nat → Option Nat) : va_E := .inl (yc t, n, .inr (.inr (.inr (.inr f))))
abbrev eR (x : Nat) : va_E := .inr (3, [.ref x, .int (iI (-1))])
/-- a constructor's contract: the cells w0 become w -/
def LPw (D : va_G) (yc : Nat → ClassId) (t1 t2 : Nat) (A : Nat → Prop) (w0 : va_W) (U : State) : Prop := (va_P D vwCl w0 U.heap ∧ va_K D vwCl (ty5 yc) U ∧ va_D A w0 ∧ SF t1 t2 A U) ∧ AOs U ∧ ∀ q, U.heap.size ≤ q → A q
def CL (l : Launch) (yn : MethodName) (ws : List Cond) (rm : Room) (D : va_G) (yc : Nat → ClassId) (t1 t2 : Nat) (A : Nat → Prop) (av : List Value) (w0 : va_W) (post : va_W → Prop) (mc ms : Nat) : Prop :=
  Met l yn ws rm (va_Pc av (LPw D yc t1 t2 A w0)) (va_Qv post (fun w t => va_P D vwCl w t.heap ∧ va_D A w) A) mc ms A
theorem LPw.blind {D : va_G} {yc : Nat → ClassId} {t1 t2 : Nat} {A : Nat → Prop} {w0 : va_W} (av : List Value) : FrameBlind (va_Pc av (LPw D yc t1 t2 A w0)) := by
  intro a U fr mk h
  obtain ⟨h1, ⟨h2, h3, h4, h5⟩, h6, h7⟩ := h
  exact ⟨h1, ⟨h2, va_K.moved (u := U) (U := U.calling fr mk a) (Vm.Alike.refl U.vm) h3, h4, h5.calling fr mk a⟩, AOs.moved (u := U) (U := U.calling fr mk a) (Vm.Alike.refl U.vm) h6, h7⟩
section LL
variable {p : Program} {l : Launch} {e : Env} {R : Room} {s : State} {m : MethodId} {args : Array Value} {below : List Frame} {meth : Method} {c : Code} {cc : ByteArray} {nL kc ks : Nat} {Ts : List Cond} {own : String} {ret : Option FieldType} {D : va_G} {yc : Nat → ClassId} {t1 t2 : Nat} {A : Nat → Prop} {Q : State → Prop} {pc : Nat} {lv : List (Nat × Value)} {st : List Value}
theorem l_ws {ws ws' : va_W} {h : va_D A ws} (e1 : ws = ws') (kk : ∀ h', VX p l e R s m args below meth c nL kc ks D A (lw A) Q pc lv st ⟨ws', h'⟩) : VX p l e R s m args below meth c nL kc ks D A (lw A) Q pc lv st ⟨ws, h⟩ := by subst e1; exact kk h
theorem start_L {yn : MethodName} {ws ws' : List Cond} {rm : Room} {av : List Value} {w0 : va_W} {post : va_W → Prop} {mc ms : Nat} (hy : plainName yn.cls = true) (hw : ws = Cond.code yn cc nL none :: ws') (ho : yn.cls = own) (hi : yn.name = "<init>") (hlen : (lg_sl av).length ≤ nL)
    (body : ∀ (p : Program) (e : Env) (s : State) (m : MethodId) (below : List Frame) (meth : Method) (c : Code) (h0 : va_D A w0), VC p s m av.toArray meth c cc nL ws own none D yc t1 t2 A (lw A) → (∀ q, s.heap.size ≤ q → A q) → AOs s → meth.name = "<init>" → VX p l e rm s m av.toArray below meth c nL 0 0 D A (lw A) (MQ below (va_Qv post (fun w t => va_P D vwCl w t.heap ∧ va_D A w) A) av.toArray s mc ms A) 0 (lv_args 0 av) [] ⟨w0, h0⟩) : CL l yn ws rm D yc t1 t2 A av w0 post mc ms := by
  refine Met.ofW (cc := cc) (maxL := nL) (ret := none) hy hw ?_
  intro p e s m args below meth c s₁ B hml hv
  obtain ⟨rfl, ⟨hP, hK, hD, hF⟩, hO, hA⟩ := hv
  have hown : s.vm.findClass own = some m.cls := by rw [← ho]; exact findClass_of_methodNamed B.named
  have hin : meth.name = "<init>" := ((name_of_methodNamed B.named B.method).1).trans hi
  rw [lg_entry_eq]
  exact body p e s m below meth c hD ⟨⟨B.exec, B.bytes, hml, hown, atoms_spec (ws := ws) B.pre⟩, hK, fun g => g.2, hF, B.returns, B.notSynchronized⟩ hA hO hin s.heap [] _ hP va_S.rf (lv_entry av hlen)
theorem l_ret (C : VC p s m args meth c cc nL Ts own ret D yc t1 t2 A (lw A)) {ws : va_W} {h : va_D A ws} {post : va_W → Prop} (hr : ret = none) (d : decode cc pc = .ok (.return_, 1)) (hp : post ws) : VX p l e R s m args below meth c nL kc ks D A (lw A) (MQ below (va_Qv post (fun w t => va_P D vwCl w t.heap ∧ va_D A w) A) args s kc ks A) pc lv [] ⟨ws, h⟩ := fun H locs ls hP hS hl => W.vret C.hx C.hb (C.hr.trans hr) (fun t ht hW => ⟨⟨ws, rfl, hp, by rw [ht]; exact hP, h⟩, hS.F ht⟩) hS.2.2 d C.hlk
theorem l_get (C : VC p s m args meth c cc nL Ts own ret D yc t1 t2 A (lw A)) {ws : va_W} {h : va_D A ws} (i : Nat) {q ci index N : Nat} {fs : List Value} {Cn : String} {T : u_T} (he : ws[i]? = some (q, .inr (ci, fs))) (hc : vwCl[ci]? = some (Cn, T, N)) (k : Nat) (hk : k < N) (hlink : Cond.fieldLink own index (T k).1 (T k).2.1 (T k).2.2.1 ∈ Ts) (hin : ∀ w ∈ u_ws Cn T N, w ∈ Ts) {v : Value} (hv : fs[k]? = some v) (d : decode cc pc = .ok (.getfield index, 3)) (kk : VX p l e R s m args below meth c nL kc ks D A (lw A) Q (pc + 3) lv (v :: st) ⟨ws, h⟩) : VX p l e R s m args below meth c nL kc ks D A (lw A) Q pc lv (.ref q :: st) ⟨ws, h⟩ := fun H locs ls hP hS hl => va_get C.hx C.hb C.hts hin C.hown C.hK hP i he hc k hk (C.hts _ hlink) (fun _ h9 => h9) hv d (kk H locs ls hP hS hl)
theorem l_putF (C : VC p s m args meth c cc nL Ts own ret D yc t1 t2 A (lw A)) {ws : va_W} {h : va_D A ws} (i : Nat) {q ci index N : Nat} {fs : List Value} {Cn : String} {T : u_T} (he : ws[i]? = some (q, .inr (ci, fs))) (hc : vwCl[ci]? = some (Cn, T, N)) (k : Nat) (hk : k < N) (hlink : Cond.fieldLink own index (T k).1 (T k).2.1 (T k).2.2.1 ∈ Ts) (hin : ∀ w ∈ u_ws Cn T N, w ∈ Ts) (ty0 : Nat → FieldType) (hty : ∀ k, k < N → parseFieldDescriptor (T k).2.2.1 = some (ty0 k)) (hnm : ∀ a, a < N → ∀ b, b < N → a ≠ b → (T a).2.1 ≠ (T b).2.1) (hfin : (T k).2.2.2 = true) (hin2 : meth.name = "<init>") (hdecl : (T k).1 = own) {ty : FieldType} {x : Nat} (hd : parseFieldDescriptor (T k).2.2.1 = some ty) (hn : narrow ty (.ref x) = .ref x) (hfit : fits ty (.ref x) = true) (hl' : k < fs.length) (d : decode cc pc = .ok (.putfield index, 3)) (kk : ∀ h', VX p l e R s m args below meth c nL kc ks D A (lw A) Q (pc + 3) lv st ⟨ws.set i (q, .inr (ci, fs.set k (.ref x))), h'⟩) : VX p l e R s m args below meth c nL kc ks D A (lw A) Q pc lv (.ref x :: .ref q :: st) ⟨ws, h⟩ := fun H locs ls hP hS hl => va_putF C.hx C.hb C.hts hin ty0 hty hnm C.hown C.hK hP h hS i he hc k hk (C.hts _ hlink) (fun _ h9 => h9) hfin hin2 hdecl hd hn hfit hl' d (fun H1 locs1 hP1 hD1 hS1 => kk hD1 H1 locs1 ls hP1 hS1 hl)
theorem l_put (C : VC p s m args meth c cc nL Ts own ret D yc t1 t2 A (lw A)) {ws : va_W} {h : va_D A ws} (i : Nat) {q ci index N : Nat} {fs : List Value} {Cn : String} {T : u_T} (he : ws[i]? = some (q, .inr (ci, fs))) (hc : vwCl[ci]? = some (Cn, T, N)) (k : Nat) (hk : k < N) (hlink : Cond.fieldLink own index (T k).1 (T k).2.1 (T k).2.2.1 ∈ Ts) (hin : ∀ w ∈ u_ws Cn T N, w ∈ Ts) (ty0 : Nat → FieldType) (hty : ∀ k, k < N → parseFieldDescriptor (T k).2.2.1 = some (ty0 k)) (hnm : ∀ a, a < N → ∀ b, b < N → a ≠ b → (T a).2.1 ≠ (T b).2.1) (hfin : (T k).2.2.2 = false) {ty : FieldType} {v : Value} (hd : parseFieldDescriptor (T k).2.2.1 = some ty) (hn : narrow ty v = v) (hfit : fits ty v = true) (hl' : k < fs.length) (d : decode cc pc = .ok (.putfield index, 3)) (kk : ∀ h', VX p l e R s m args below meth c nL kc ks D A (lw A) Q (pc + 3) lv st ⟨ws.set i (q, .inr (ci, fs.set k v)), h'⟩) : VX p l e R s m args below meth c nL kc ks D A (lw A) Q pc lv (v :: .ref q :: st) ⟨ws, h⟩ := fun H locs ls hP hS hl => va_put C.hx C.hb C.hts hin ty0 hty hnm C.hown C.hK hP h hS i he hc k hk (C.hts _ hlink) (fun _ h9 => h9) hfin hd hn hfit hl' d (fun H1 locs1 hP1 hD1 hS1 => kk hD1 H1 locs1 ls hP1 hS1 hl)
theorem l_newi (C : VC p s m args meth c cc nL Ts own ret D yc t1 t2 A (lw A)) {ws : va_W} {h : va_D A ws} (hA : ∀ q, s.heap.size ≤ q → A q) {z : Int} {N : Nat} (hw : Cond.arrayClass .int ∈ Ts) (hz0 : ¬ iI z < 0) (hzN : (iI z).toNatClampNeg = N) (hb : N * 4 ≤ 536870912) (hc : kc + 1 ≤ R.cells) (hs : ks + N ≤ R.slots) (d : decode cc pc = .ok (.newarray .int, 2)) (kk : ∀ (q : Nat) h', VX p l e R s m args below meth c nL (kc + 1) (ks + N) D A (lw A) Q (pc + 2) lv (.ref q :: st) ⟨ws ++ [(q, eI yc N)], h'⟩) : VX p l e R s m args below meth c nL kc ks D A (lw A) Q pc lv (.int (iI z) :: st) ⟨ws, h⟩ := by
  intro H locs ls hP hS hl
  refine va_newa (atype := .int) (ty := .int) (N' := N) (a0 := (N, .inl (fun _ => 0))) C.hx C.hb (C.hts _ hw) rfl C.hK hP h hS hA (fun cA => rfl) hz0 hzN hb hc hs d (fun q cA H1 hK1 hP1 hD1 hS1 => ?_)
  have hcA := ty_int C.hK hK1
  subst hcA
  exact kk q hD1 H1 locs ls hP1 hS1 hl
theorem l_newz (C : VC p s m args meth c cc nL Ts own ret D yc t1 t2 A (lw A)) {ws : va_W} {h : va_D A ws} (hA : ∀ q, s.heap.size ≤ q → A q) {z : Int} {N : Nat} (hw : Cond.arrayClass .boolean ∈ Ts) (hz0 : ¬ iI z < 0) (hzN : (iI z).toNatClampNeg = N) (hb : N * 1 ≤ 536870912) (hc : kc + 1 ≤ R.cells) (hs : ks + N ≤ R.slots) (d : decode cc pc = .ok (.newarray .boolean, 2)) (kk : ∀ (q : Nat) h', VX p l e R s m args below meth c nL (kc + 1) (ks + N) D A (lw A) Q (pc + 2) lv (.ref q :: st) ⟨ws ++ [(q, .inl (yc 1, N, .inl (fun _ => 0)))], h'⟩) : VX p l e R s m args below meth c nL kc ks D A (lw A) Q pc lv (.int (iI z) :: st) ⟨ws, h⟩ := by
  intro H locs ls hP hS hl
  refine va_newa (atype := .boolean) (ty := .boolean) (N' := N) (a0 := (N, .inl (fun _ => 0))) C.hx C.hb (C.hts _ hw) rfl C.hK hP h hS hA (fun cA => rfl) hz0 hzN hb hc hs d (fun q cA H1 hK1 hP1 hD1 hS1 => ?_)
  have h1 : s.vm.findClass ("[" ++ FieldType.boolean.toString) = some (yc 1) := (C.hK.2 1 (yc 1, .boolean) rfl).2
  have h2 : s.vm.findClass ("[" ++ FieldType.boolean.toString) = some cA := (hK1.2 5 (cA, .boolean) rfl).2
  have hcA : cA = yc 1 := Option.some.inj (h2.symm.trans h1)
  subst hcA
  exact kk q hD1 H1 locs ls hP1 hS1 hl
theorem l_newq (C : VC p s m args meth c cc nL Ts own ret D yc t1 t2 A (lw A)) {ws : va_W} {h : va_D A ws} (hA : ∀ q, s.heap.size ≤ q → A q) {z : Int} {N index : Nat} {Cn : String} (t : Nat) (ht : (ty5 yc)[t]? = some (yc t, .object Cn)) (hcl : Cond.classLink own index Cn ∈ Ts) (hO : va_AO Cn s) (hz0 : ¬ iI z < 0) (hzN : (iI z).toNatClampNeg = N) (hb : N * 4 ≤ 536870912) (hc : kc + 1 ≤ R.cells) (hs : ks + N ≤ R.slots) (d : decode cc pc = .ok (.anewarray index, 3)) (kk : ∀ (q : Nat) h', VX p l e R s m args below meth c nL (kc + 1) (ks + N) D A (lw A) Q (pc + 3) lv (.ref q :: st) ⟨ws ++ [(q, eQ yc t N (fun _ => none))], h'⟩) : VX p l e R s m args below meth c nL kc ks D A (lw A) Q pc lv (.int (iI z) :: st) ⟨ws, h⟩ := by
  intro H locs ls hP hS hl
  refine va_newq C.hx C.hb C.hown (C.hts _ hcl) hO C.hK hP h hS hA hz0 hzN hb hc hs d (fun q cA H1 hK1 hP1 hD1 hS1 => ?_)
  obtain ⟨k1, c1, a1, a2, a3, a4⟩ := (C.hK.2 t (yc t, .object Cn) ht).2
  obtain ⟨k2, c2, b1, b2, b3, b4⟩ := (hK1.2 5 (cA, .object Cn) rfl).2
  have hcA : cA = yc t := Option.some.inj (b4.symm.trans a4)
  subst hcA
  exact kk q hD1 H1 locs ls hP1 hS1 hl
theorem l_new (C : VC p s m args meth c cc nL Ts own ret D yc t1 t2 A (lw A)) {ws : va_W} {h : va_D A ws} (hA : ∀ q, s.heap.size ≤ q → A q) {Cn : String} {T : u_T} {N ci index : Nat} (hin : ∀ w ∈ u_ws Cn T N, w ∈ Ts) (ty : Nat → FieldType) (hty : ∀ k, k < N → parseFieldDescriptor (T k).2.2.1 = some (ty k)) (hcl : Cond.classLink own index Cn ∈ Ts) (hi1 : Cond.instantiable Cn N ∈ Ts) (hi2 : Cond.initialized Cn ∈ Ts) (hc : vwCl[ci]? = some (Cn, T, N)) {fs : List Value} (hfs : ∀ j, j < N → defaultValue (ty j) = vp_V fs j) (hcc : kc + 1 ≤ R.cells) (hs : ks + N ≤ R.slots) (d : decode cc pc = .ok (.new index, 3)) (kk : ∀ (q : Nat) h', VX p l e R s m args below meth c nL (kc + 1) (ks + N) D A (lw A) Q (pc + 3) lv (.ref q :: st) ⟨ws ++ [(q, .inr (ci, fs))], h'⟩) : VX p l e R s m args below meth c nL kc ks D A (lw A) Q pc lv st ⟨ws, h⟩ := fun H locs ls hP hS hl => va_new C.hx C.hb C.hts hin ty hty C.hown (C.hts _ hcl) (C.hts _ hi1) (C.hts _ hi2) C.hK hP h hS hA hc hfs hcc hs d (fun q H1 hP1 hD1 hS1 => kk q hD1 H1 locs ls hP1 hS1 hl)
theorem l_aast (C : VC p s m args meth c cc nL Ts own ret D yc t1 t2 A (lw A)) {ws : va_W} {h : va_D A ws} (i t j ci : Nat) {a x N : Nat} {r : vw_C} {fs : List Value} {f : Nat → Option Nat} {z : Int} {n : Nat} (ha : ws[i]? = some (a, eQ yc t N f)) (ht : (ty5 yc)[t]? = some (yc t, .object r.1)) (hv : ws[j]? = some (x, .inr (ci, fs))) (hc : vwCl[ci]? = some r) (hin : vp_in (iI z) N) (hz : (iI z).toNatClampNeg = n) (d : decode cc pc = .ok (.aastore, 1)) (kk : ∀ h', VX p l e R s m args below meth c nL kc ks D A (lw A) Q (pc + 1) lv st ⟨ws.set i (a, eQ yc t N (va_up f n (some x))), h'⟩) : VX p l e R s m args below meth c nL kc ks D A (lw A) Q pc lv (.ref x :: .int (iI z) :: .ref a :: st) ⟨ws, h⟩ := by
  subst hz
  exact fun H locs ls hP hS hl => va_astq C.hx C.hb C.hK hP h hS i t j ci ha ht hv hc hin d (fun H1 locs1 hP1 hD1 hS1 => kk hD1 H1 locs1 ls hP1 hS1 hl)
theorem l_iast (C : VC p s m args meth c cc nL Ts own ret D yc t1 t2 A (lw A)) {ws : va_W} {h : va_D A ws} (i : Nat) {a N : Nat} {f : Nat → Int32} {z v : Int} {n : Nat} (ha : ws[i]? = some (a, .inl (yc 0, N, .inl f))) (hin : vp_in (iI z) N) (hz : (iI z).toNatClampNeg = n) (d : decode cc pc = .ok (.iastore, 1)) (kk : ∀ h', VX p l e R s m args below meth c nL kc ks D A (lw A) Q (pc + 1) lv st ⟨ws.set i (a, .inl (yc 0, N, .inl (upd f n (iI v)))), h'⟩) : VX p l e R s m args below meth c nL kc ks D A (lw A) Q pc lv (.int (iI v) :: .int (iI z) :: .ref a :: st) ⟨ws, h⟩ := by
  subst hz
  exact fun H locs ls hP hS hl => va_iast C.hx C.hb C.hK hP h hS i 0 ha rfl hin d (fun H1 locs1 hP1 hD1 hS1 => kk hD1 H1 locs1 ls hP1 hS1 hl)
theorem l_oi (C : VC p s m args meth c cc nL Ts own ret D yc t1 t2 A (lw A)) {ws : va_W} {h : va_D A ws} {q index : Nat} (w1 : Cond.methodLink own index objectInit ∈ Ts) (w2 : Cond.instanceMethod objectInit ∈ Ts) (w3 : Cond.code objectInit ⟨#[0xb1]⟩ 1 none ∈ Ts) (hf : 1 ≤ R.frames) (hlo : (st.map fun v => v.category).sum + 12 ≤ R.locals) (d : decode cc pc = .ok (.invokespecial index, 3)) (kk : VX p l e R s m args below meth c nL kc ks D A (lw A) Q (pc + 3) lv st ⟨ws, h⟩) : VX p l e R s m args below meth c nL kc ks D A (lw A) Q pc lv (.ref q :: st) ⟨ws, h⟩ := fun H locs ls hP hS hl => W.objInit C.hx C.hb C.hown (C.hts _ w1) (C.hts _ w2) (C.hts _ w3) rfl (hl.1.trans C.hml.symm) rfl d hf (by show 2 * 0 + _ + 12 ≤ _; omega) (kk H locs ls hP hS hl)
theorem x_mmax {M : Type} {ww : M → va_W} {g : M} (C : VC p s m args meth c cc nL Ts own ret D yc t1 t2 A ww) {x y : Int} {index : Nat} (hkc : kc ≤ R.cells) (hks : ks ≤ R.slots) (w1 : Cond.methodLink own index Lib.Math.max.name ∈ Ts) (w2 : Cond.static Lib.Math.max.name ∈ Ts) (w3 : Cond.initialized "java/lang/Math" ∈ Ts) (w4 : Cond.code Lib.Math.max.name Lib.Math.max.code 2 (some .int) ∈ Ts) (hf : 1 ≤ R.frames) (hlo : (st.map fun v => v.category).sum + 13 ≤ R.locals) (hx : R32 x) (hy : R32 y) (d : decode cc pc = .ok (.invokestatic index, 3)) (k : VX p l e R s m args below meth c nL kc ks D A ww Q (pc + 3) lv (.int (iI (if x < y then y else x)) :: st) g) : VX p l e R s m args below meth c nL kc ks D A ww Q pc lv (.int (iI y) :: .int (iI x) :: st) g := by
  intro H locs ls hP hS hl
  refine va_mmax C.hx C.hb (C.hml.trans hl.1.symm) C.hown (C.hts _ w1) (C.hts _ w2) (C.hts _ w3) (C.hts _ w4) hf hlo hkc hks d ?_
  have e : (if iI x < iI y then iI y else iI x) = iI (if x < y then y else x) := by
    by_cases h : x < y
    · rw [if_pos h, if_pos ((iI_lt hx hy).mpr h)]
    · rw [if_neg h, if_neg (fun q => h ((iI_lt hx hy).mp q))]
  rw [e]
  exact k H locs ls hP hS hl
/-- the rest of the world, beside what a constructor made of the last cell -/
theorem jn {wr w : va_W} {x : Nat × va_E} {H H1 : Heap} (hP : va_P D vwCl (wr ++ [x]) H) (hD : va_D A (wr ++ [x])) (hk : ∀ q : Nat, q < H.size → ¬ va_A [x] H.size q → H1[q]? = H[q]?) (hF : ∀ q, va_A [x] H.size q → A q) (hP1 : va_P D vwCl w H1) (hD1 : va_D (va_A [x] H.size) w) : va_P D vwCl (wr ++ w) H1 ∧ va_D A (wr ++ w) := by
  have hx : (wr ++ [x])[wr.length]? = some x := by simp
  have hw : ∀ (k : Nat) (q : Nat × va_E), wr[k]? = some q → (wr ++ [x])[k]? = some q := fun k q h => by
    rw [List.getElem?_append_left (List.getElem?_eq_some_iff.mp h).1]; exact h
  have hn : ∀ (k : Nat) (q : Nat × va_E), wr[k]? = some q → q.1 < H.size ∧ ¬ va_A [x] H.size q.1 := fun k q h => by
    have hl := (hP k q (hw k q h)).lt
    refine ⟨hl, ?_⟩
    rintro (⟨j, e9, he⟩ | h2)
    · have hj : j = 0 := by
        have := (List.getElem?_eq_some_iff.mp he).1
        simp at this; exact this
      subst hj
      have he : x = (q.1, e9) := Option.some.inj he
      have hq : q.1 = x.1 := by rw [he]
      have := hD.1 k wr.length q x (hw k q h) hx hq
      have h3 := (List.getElem?_eq_some_iff.mp h).1
      omega
    · omega
  constructor
  · intro k q h
    by_cases c1 : k < wr.length
    · rw [List.getElem?_append_left c1] at h
      exact (hP k q (hw k q h)).kept (hk _ (hn k q h).1 (hn k q h).2)
    · rw [List.getElem?_append_right (by omega)] at h
      exact hP1 _ q h
  · refine ⟨fun i j p9 q9 hi hj hpq => ?_, fun k q h => ?_⟩
    · by_cases ci : i < wr.length <;> by_cases cj : j < wr.length
      · rw [List.getElem?_append_left ci] at hi
        rw [List.getElem?_append_left cj] at hj
        exact hD.1 i j p9 q9 (hw i p9 hi) (hw j q9 hj) hpq
      · rw [List.getElem?_append_left ci] at hi
        rw [List.getElem?_append_right (by omega)] at hj
        exact absurd (by rw [hpq]; exact hD1.2 _ _ hj) (hn i p9 hi).2
      · rw [List.getElem?_append_right (by omega)] at hi
        rw [List.getElem?_append_left cj] at hj
        exact absurd (by rw [← hpq]; exact hD1.2 _ _ hi) (hn j q9 hj).2
      · rw [List.getElem?_append_right (by omega)] at hi
        rw [List.getElem?_append_right (by omega)] at hj
        have := hD1.1 _ _ p9 q9 hi hj hpq
        omega
    · by_cases c1 : k < wr.length
      · rw [List.getElem?_append_left c1] at h
        exact hD.2 k q (hw k q h)
      · rw [List.getElem?_append_right (by omega)] at h
        exact hF _ (hD1.2 _ q h)
theorem l_in (C : VC p s m args meth c cc nL Ts own ret D yc t1 t2 A (lw A)) {wr : va_W} {x : Nat × va_E} (h : va_D A (wr ++ [x])) (hA : ∀ q, s.heap.size ≤ q → A q) (hO : AOs s) {H : Heap} {locs : List Loc} (hP : va_P D vwCl (wr ++ [x]) H) (hS : va_S A s.heap H locs) : (∀ q, va_A [x] H.size q → A q) ∧ ∀ U : State, U.heap = H → s.WarmedH U.vm → LPw D yc t1 t2 (va_A [x] H.size) [x] U := by
  have hx : (wr ++ [x])[wr.length]? = some x := by simp
  have hF : ∀ q, va_A [x] H.size q → A q := by
    rintro q (⟨j, e9, he⟩ | h2)
    · have hj : j = 0 := by
        have := (List.getElem?_eq_some_iff.mp he).1
        simp at this; exact this
      subst hj
      have he : x = (q, e9) := Option.some.inj he
      have := h.2 wr.length x hx
      rw [he] at this; exact this
    · exact hA q (Nat.le_trans hS.1 h2)
  refine ⟨hF, fun U hU hW => ⟨⟨fun k q hk => ?_, va_K.moved hW.alike C.hK, ⟨fun i j p9 q9 hi hj _ => ?_, fun k q hk => Or.inl ⟨k, q.2, hk⟩⟩, (C.hF.warm hW (by rw [hU]; exact hS)).narrow hF⟩, AOs.moved hW.alike hO, fun q hq => Or.inr (by rw [hU] at hq; exact hq)⟩⟩
  · have hj : k = 0 := by
      have := (List.getElem?_eq_some_iff.mp hk).1
      simp at this; exact this
    subst hj
    have he : x = q := Option.some.inj hk
    rw [← he, hU]; exact hP wr.length x hx
  · have h1 := (List.getElem?_eq_some_iff.mp hi).1
    have h2 := (List.getElem?_eq_some_iff.mp hj).1
    simp at h1 h2
    omega
theorem l_callI (C : VC p s m args meth c cc nL Ts own ret D yc t1 t2 A (lw A)) {wr : va_W} {x : va_E} {b : Nat} {h : va_D A (wr ++ [(b, x)])} (hA : ∀ q, s.heap.size ≤ q → A q) (hO : AOs s) {yn : MethodName} {wsc : List Cond} {rmc : Room} {As rest st0 : List Value} {post : va_W → Prop} {index maxL nA mc ms : Nat} {bytes : ByteArray} (hM : ∀ A1 : Nat → Prop, CL l yn wsc rmc D yc t1 t2 A1 (.ref b :: As) [(b, x)] post mc ms) (cw9 : CallB R s args own index yn bytes maxL none wsc rmc mc ms nA ∧ yn.name = "<init>" ∧ (Cond.instanceMethod yn).before args s = true) (hn : As.length = nA) (hst : st0 = As.reverse ++ .ref b :: rest) (hrm : (rest.map fun v => v.category).sum ≤ 8) (hk9 : kc + mc ≤ R.cells ∧ ks + ms ≤ R.slots) (d : decode cc pc = .ok (.invokespecial index, 3)) (kk : ∀ w, post w → ∀ h', VX p l e R s m args below meth c nL (kc + mc) (ks + ms) D A (lw A) Q (pc + 3) lv rest ⟨wr ++ w, h'⟩) : VX p l e R s m args below meth c nL kc ks D A (lw A) Q pc lv st0 ⟨wr ++ [(b, x)], h⟩ := by
  intro H locs ls hP hS hl
  obtain ⟨hF, hpre⟩ := l_in C h hA hO hP hS
  refine va_callv (va_runI (As := As) (rest := rest) C.1 (hM (va_A [(b, x)] H.size)) cw9 ⟨LPw.blind _, fun U hU hW => ⟨rfl, hpre U hU hW⟩⟩ rfl hn hl.1 hst (lv_room hrm) d hk9) hS (fun q _ h9 => hF q h9) hF (fun u t H1 locs1 ht _ hp hb _ hk1 hS1 => ?_)
  have hj := jn hP h hk1 hF (by rw [← ht]; exact hb.1) hb.2
  exact kk u hp hj.2 H1 locs1 ls hj.1 hS1 hl
theorem l_callIN (C : VC p s m args meth c cc nL Ts own ret D yc t1 t2 A (lw A)) {wr : va_W} {x : va_E} {b : Nat} {h : va_D A (wr ++ [(b, x)])} (hA : ∀ q, s.heap.size ≤ q → A q) (hO : AOs s) {yn : MethodName} {wsc : List Cond} {rmc : Room} {As rest st0 : List Value} {post : va_W → Prop} {index maxL nA mc ms : Nat} {host : String} {bytes : ByteArray} (hM : ∀ A1 : Nat → Prop, CL l yn wsc rmc D yc t1 t2 A1 (.ref b :: As) [(b, x)] post mc ms) (cw9 : va_CN R s args own index yn host bytes maxL none wsc rmc mc ms nA ∧ yn.name = "<init>" ∧ (Cond.instanceMethod yn).before args s = true) (hn : As.length = nA) (hst : st0 = As.reverse ++ .ref b :: rest) (hrm : (rest.map fun v => v.category).sum ≤ 8) (hk9 : kc + mc ≤ R.cells ∧ ks + ms ≤ R.slots) (d : decode cc pc = .ok (.invokespecial index, 3)) (kk : ∀ w, post w → ∀ h', VX p l e R s m args below meth c nL (kc + mc) (ks + ms) D A (lw A) Q (pc + 3) lv rest ⟨wr ++ w, h'⟩) : VX p l e R s m args below meth c nL kc ks D A (lw A) Q pc lv st0 ⟨wr ++ [(b, x)], h⟩ := by
  intro H locs ls hP hS hl
  obtain ⟨hF, hpre⟩ := l_in C h hA hO hP hS
  refine va_callv (va_runIN (As := As) (rest := rest) C.1 (hM (va_A [(b, x)] H.size)) cw9 ⟨LPw.blind _, fun U hU hW => ⟨rfl, hpre U hU hW⟩⟩ rfl hn hl.1 hst (lv_room hrm) d hk9) hS (fun q _ h9 => hF q h9) hF (fun u t H1 locs1 ht _ hp hb _ hk1 hS1 => ?_)
  have hj := jn hP h hk1 hF (by rw [← ht]; exact hb.1) hb.2
  exact kk u hp hj.2 H1 locs1 ls hj.1 hS1 hl
end LL
