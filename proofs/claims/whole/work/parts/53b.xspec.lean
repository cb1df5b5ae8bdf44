/-! The class's world and one row of 8 ints more, at place 86. -/
def au (a : Int → Nat) (q : Nat) : Int → Nat := fun k => if k = 86 then q else a k
def mz (g : Mm) : Mm := fun p j => if p = 86 then 0 else g p j
def ctx (a : Int → Nat) (yc : Nat → ClassId) (g : Mm) (k : Int) : va_E := if k < 86 then cta a yc g k else .inl (yc 0, 8, .inl (fun j : Nat => iI (g k (j : Int))))
theorem ctx_L (a : Int → Nat) (yc : Nat → ClassId) : Lc (ctx a yc) := by
  intro g g' q h
  unfold ctx
  rw [cta_L a yc g g' q h, h]
abbrev xw (a : Int → Nat) (yc : Nat → ClassId) : Mm → va_W := wo 87 a (ctx a yc)
theorem cx_tmp {a : Int → Nat} {yc : Nat → ClassId} {g : Mm} : ctx a yc g (86) = .inl (yc 0, 8, .inl (fun j : Nat => iI (g (86) (j : Int)))) := by unfold ctx; rfl
theorem cx_lt {a : Int → Nat} {yc : Nat → ClassId} {g : Mm} {k : Int} {e : va_E} (h : k < 86) (he : cta a yc g k = e) : ctx a yc g k = e := by unfold ctx; rw [if_pos h]; exact he
theorem cx_cow {a : Int → Nat} {yc : Nat → ClassId} {g : Mm}  : ctx a yc g (0) = .inr (4, [.ref (a (1)), .ref (a (2)), .ref (a (26)), .ref (a (3)), .ref (a (4)), .ref (a (5)), .int (iI (g (0) 6)), .int (iI (g (0) 7)), .long (lI (g (0) 8)), .long (lI (g (0) 9))]) := cx_lt (by omega) ct_cow
theorem cx_farm {a : Int → Nat} {yc : Nat → ClassId} {g : Mm} {f : Int} (h0 : 0 ≤ f) (h1 : f < 5) : ctx a yc g (26 + f) = .inr (1, [.ref (a (31 + f)), .ref (a (36 + f)), .ref (a (41 + f)), .ref (a (46 + f)), .ref (a (51 + f)), .int (iI (g (26 + f) 5)), .int (iI (g (26 + f) 6)), .int (iI (g (26 + f) 7)), .int (iI (g (26 + f) 8)), .int (iI (g (26 + f) 9)), .int (iI (g (26 + f) 10))]) := cx_lt (by omega) (ct_farm h0 h1)
theorem cx_turns {a : Int → Nat} {yc : Nat → ClassId} {g : Mm} {f : Int} (h0 : 0 ≤ f) (h1 : f < 5) : ctx a yc g (31 + f) = .inl (yc 0, 8, .inl (fun j : Nat => iI (g (31 + f) (j : Int)))) := cx_lt (by omega) (ct_turns h0 h1)
theorem cx_milks {a : Int → Nat} {yc : Nat → ClassId} {g : Mm} {f : Int} (h0 : 0 ≤ f) (h1 : f < 5) : ctx a yc g (36 + f) = .inl (yc 0, 6, .inl (fun j : Nat => iI (g (36 + f) (j : Int)))) := cx_lt (by omega) (ct_milks h0 h1)
theorem cxs_cow_7 {a : Int → Nat} {yc : Nat → ClassId} {g : Mm} {z : Int}  : (.inr (4, ([.ref (a (1)), .ref (a (2)), .ref (a (26)), .ref (a (3)), .ref (a (4)), .ref (a (5)), .int (iI (g (0) 6)), .int (iI (g (0) 7)), .long (lI (g (0) 8)), .long (lI (g (0) 9))] : List Value).set 7 (.int (iI z))) : va_E) = ctx a yc (mu g (0) ((7 : Nat) : Int) z) (0) := by unfold ctx; rw [if_pos (by decide)]; exact cs_cow_7
theorem arrV_cg {cI : ClassId} {N : Nat} {f f' : Nat → Value} (h : ∀ j, j < N → f j = f' j) : arrV cI N f = arrV cI N f' := by
  have e : (fun j : Fin N => f j.val) = fun j : Fin N => f' j.val := funext (fun j => h j.val j.isLt)
  unfold arrV; rw [e]
theorem rfs_cg {D : va_G} {H : Heap} {x N : Nat} {cI : ClassId} {f f' : Nat → Option Nat} (h : ∀ j, j < N → f j = f' j) : va_at D vwCl (x, .inl (cI, N, .inr (.inr (.inr (.inr f))))) H = va_at D vwCl (x, .inl (cI, N, .inr (.inr (.inr (.inr f'))))) H := by
  have e : vp_cell cI (N, .inr (.inr (.inr (.inr f)))) = vp_cell cI (N, .inr (.inr (.inr (.inr f')))) := by
    show arrV cI N (fun j => va_rf (f j)) = arrV cI N (fun j => va_rf (f' j))
    exact arrV_cg (fun j hj => by rw [h j hj])
  show (H[x]? = some (vp_cell cI (N, .inr (.inr (.inr (.inr f)))))) = (H[x]? = some (vp_cell cI (N, .inr (.inr (.inr (.inr f'))))))
  rw [e]
/-- only the addresses of the world's own places matter -/
theorem at_cg {D : va_G} {H : Heap} {x : Nat} {a a' : Int → Nat} {yc : Nat → ClassId} {g : Mm} (e : ∀ k, 0 ≤ k → k < 86 → a' k = a k) {k : Int} (h0 : 0 ≤ k) (h1 : k < 86) : va_at D vwCl (x, cta a' yc g k) H = va_at D vwCl (x, cta a yc g k) H := by
  rcases (show k = 0 ∨ k = 1 ∨ k = 2 ∨ k = 3 ∨ k = 4 ∨ k = 5 ∨ (6 ≤ k ∧ k < 16) ∨ (16 ≤ k ∧ k < 26) ∨ (26 ≤ k ∧ k < 31) ∨ (31 ≤ k ∧ k < 36) ∨ (36 ≤ k ∧ k < 41) ∨ (41 ≤ k ∧ k < 46) ∨ (46 ≤ k ∧ k < 51) ∨ (51 ≤ k ∧ k < 56) ∨ (56 ≤ k ∧ k < 86) by omega) with rfl | rfl | rfl | rfl | rfl | rfl | h | h | h | h | h | h | h | h | h
  · rw [ct_cow, ct_cow, e 1 (by decide) (by decide), e 2 (by decide) (by decide), e 26 (by decide) (by decide), e 3 (by decide) (by decide), e 4 (by decide) (by decide), e 5 (by decide) (by decide)]
  · rw [ct_rowsA, ct_rowsA]; exact rfs_cg (fun j hj => by rw [e _ (by omega) (by omega)])
  · rw [ct_textsA, ct_textsA]; exact rfs_cg (fun j hj => by rw [e _ (by omega) (by omega)])
  · rw [ct_keptA, ct_keptA]; exact rfs_cg (fun j hj => by rw [e _ (by omega) (by omega)])
  · rw [ct_reader, ct_reader, e 30 (by decide) (by decide)]
  · rw [ct_fc, ct_fc]
  · obtain ⟨r, rfl⟩ : ∃ r, k = 6 + r := ⟨k - 6, by omega⟩
    rw [ct_row (by omega) (by omega), ct_row (by omega) (by omega), e _ (by omega) (by omega)]
  · obtain ⟨r, rfl⟩ : ∃ r, k = 16 + r := ⟨k - 16, by omega⟩
    rw [ct_places (by omega) (by omega), ct_places (by omega) (by omega)]
  · obtain ⟨f, rfl⟩ : ∃ f, k = 26 + f := ⟨k - 26, by omega⟩
    rw [ct_farm (by omega) (by omega), ct_farm (by omega) (by omega), e (31 + f) (by omega) (by omega), e (36 + f) (by omega) (by omega), e (41 + f) (by omega) (by omega), e (46 + f) (by omega) (by omega), e (51 + f) (by omega) (by omega)]
  · obtain ⟨f, rfl⟩ : ∃ f, k = 31 + f := ⟨k - 31, by omega⟩
    rw [ct_turns (by omega) (by omega), ct_turns (by omega) (by omega)]
  · obtain ⟨f, rfl⟩ : ∃ f, k = 36 + f := ⟨k - 36, by omega⟩
    rw [ct_milks (by omega) (by omega), ct_milks (by omega) (by omega)]
  · obtain ⟨f, rfl⟩ : ∃ f, k = 41 + f := ⟨k - 41, by omega⟩
    rw [ct_beastsA (by omega) (by omega), ct_beastsA (by omega) (by omega)]; exact rfs_cg (fun j hj => by rw [e _ (by omega) (by omega)])
  · obtain ⟨f, rfl⟩ : ∃ f, k = 46 + f := ⟨k - 46, by omega⟩
    rw [ct_dk (by omega) (by omega), ct_dk (by omega) (by omega)]
  · obtain ⟨f, rfl⟩ : ∃ f, k = 51 + f := ⟨k - 51, by omega⟩
    rw [ct_dt (by omega) (by omega), ct_dt (by omega) (by omega)]
  · obtain ⟨f, i, hf0, hf1, hi0, hi1, rfl⟩ : ∃ f i, 0 ≤ f ∧ f < 5 ∧ 0 ≤ i ∧ i < 6 ∧ k = 56 + 6 * f + i := ⟨(k - 56) / 6, (k - 56) % 6, by omega, by omega, by omega, by omega, by omega⟩
    rw [ct_beast hf0 hf1 hi0 hi1, ct_beast hf0 hf1 hi0 hi1]
theorem wo_el {n : Nat} {a : Int → Nat} {ct : Mm → Int → va_E} {g : Mm} {k : Nat} {x : Nat × va_E} (h : (wo n a ct g)[k]? = some x) : k < n ∧ x = (a (k : Int), ct g (k : Int)) := by
  have hlen : (wo n a ct g).length = n := by unfold wo; simp
  have hk : k < n := by
    have := (List.getElem?_eq_some_iff.mp h).1
    omega
  refine ⟨hk, ?_⟩
  have h2 := wo_at (n := n) (a := a) (ct := ct) (g := g) (q := (k : Int)) (by omega) (by omega)
  rw [Int.toNat_natCast, h] at h2
  exact Option.some.inj h2
theorem wo_P {D : va_G} {H : Heap} {n : Nat} {a : Int → Nat} {ct : Mm → Int → va_E} {g : Mm} : va_P D vwCl (wo n a ct g) H ↔ ∀ k : Int, 0 ≤ k → k < n → va_at D vwCl (a k, ct g k) H := by
  constructor
  · intro h k h0 h1
    exact h k.toNat _ (wo_at h0 h1)
  · intro h k x hx
    obtain ⟨h1, rfl⟩ := wo_el hx
    exact h k (by omega) (by omega)
theorem wo_D {A : Nat → Prop} {n : Nat} {a : Int → Nat} {ct : Mm → Int → va_E} {g : Mm} : va_D A (wo n a ct g) ↔ (∀ i j : Int, 0 ≤ i → i < n → 0 ≤ j → j < n → a i = a j → i = j) ∧ ∀ k : Int, 0 ≤ k → k < n → A (a k) := by
  constructor
  · intro h
    refine ⟨fun i j hi hi2 hj hj2 e => ?_, fun k h0 h1 => h.2 k.toNat _ (wo_at h0 h1)⟩
    have := h.1 i.toNat j.toNat _ _ (wo_at hi hi2) (wo_at hj hj2) e
    omega
  · intro h
    refine ⟨fun i j x y hx hy e => ?_, fun k x hx => ?_⟩
    · obtain ⟨h1, rfl⟩ := wo_el hx
      obtain ⟨h2, rfl⟩ := wo_el hy
      have := h.1 i j (by omega) (by omega) (by omega) (by omega) e
      omega
    · obtain ⟨h1, rfl⟩ := wo_el hx
      exact h.2 k (by omega) (by omega)
/-- the larger world holds the class's own -/
theorem xw_cw {D : va_G} {H : Heap} {a a2 : Int → Nat} {yc : Nat → ClassId} {g : Mm} (e : ∀ k, 0 ≤ k → k < 86 → a2 k = a k) (h : va_P D vwCl (xw a2 yc g) H) : va_P D vwCl (cw a yc g) H := by
  refine wo_P.mpr (fun k h0 h1 => ?_)
  have := wo_P.mp h k h0 (by omega)
  unfold ctx at this
  rw [if_pos (by omega), at_cg e h0 (by omega), e k h0 (by omega)] at this
  exact this
theorem cw_cg {D : va_G} {H : Heap} {a : Int → Nat} {yc : Nat → ClassId} {g g0 : Mm} (e : ∀ q, q ≠ 86 → g q = g0 q) (h : va_P D vwCl (cw a yc g) H) : va_P D vwCl (cw a yc g0) H := by
  refine wo_P.mpr (fun k h0 h1 => ?_)
  rw [cta_L a yc g0 g k (e k (by omega)).symm]
  exact wo_P.mp h k h0 h1
section XE
variable {p : Program} {l : Launch} {e : Env} {R : Room} {s : State} {m : MethodId} {args : Array Value} {below : List Frame} {meth : Method} {c : Code} {cc : ByteArray} {nL kc ks : Nat} {Ts : List Cond} {own : String} {ret : Option FieldType} {D : va_G} {yc : Nat → ClassId} {t1 t2 : Nat} {A : Nat → Prop} {Q : State → Prop} {pc : Nat} {lv : List (Nat × Value)} {st : List Value} {g : Mm} {a : Int → Nat}
theorem ty_int {cA : ClassId} {tys : List (ClassId × FieldType)} (hK : va_K D vwCl (ty5 yc) s) (hK1 : va_K D vwCl (tys ++ [(cA, .int)]) s) : cA = yc 0 := by
  have h1 : s.vm.findClass ("[" ++ FieldType.int.toString) = some (yc 0) := (hK.2 0 (yc 0, .int) rfl).2
  have h2 : s.vm.findClass ("[" ++ FieldType.int.toString) = some cA := (hK1.2 tys.length (cA, .int) (by simp)).2
  exact Option.some.inj (h2.symm.trans h1)
/-- a row of 8 made -/
theorem x_new8 (C : VC p s m args meth c cc nL Ts own ret D yc t1 t2 A (cw a yc)) (hA : ∀ q, s.heap.size ≤ q → A q) (hw : Cond.arrayClass .int ∈ Ts) (hc : kc + 1 ≤ R.cells) (hs : ks + 8 ≤ R.slots) (d : decode cc pc = .ok (.newarray .int, 2))
    (kk : ∀ a2 : Int → Nat, (∀ k, 0 ≤ k → k < 86 → a2 k = a k) → VC p s m args meth c cc nL Ts own ret D yc t1 t2 A (xw a2 yc) → VX p l e R s m args below meth c nL (kc + 1) (ks + 8) D A (xw a2 yc) Q (pc + 2) lv (.ref (a2 86) :: st) (mz g)) :
    VX p l e R s m args below meth c nL kc ks D A (cw a yc) Q pc lv (.int (iI 8) :: st) g := by
  intro H locs ls hP hS hl
  refine va_newa (atype := .int) (ty := .int) (N' := 8) (a0 := (8, .inl (fun _ => 0))) C.hx C.hb (C.hts _ hw) rfl C.hK hP (C.hD g) hS hA (fun cA => rfl) (by decide) (by decide) (by decide) hc hs d (fun q cA H1 hK1 hP1 hD1 hS1 => ?_)
  have hcA := ty_int C.hK hK1
  subst hcA
  have hlen : (cw a yc g).length = 86 := by show (wo 86 a (cta a yc) g).length = 86; unfold wo; simp
  have e2 : ∀ k, 0 ≤ k → k < 86 → au a q k = a k := fun k _ h => by unfold au; rw [if_neg (by omega)]
  have e3 : au a q 86 = q := by unfold au; rw [if_pos rfl]
  have hPx : va_P D vwCl (xw (au a q) yc (mz g)) H1 := by
    refine wo_P.mpr (fun k h0 h1 => ?_)
    by_cases hk : k < 86
    · have h3 := hP1 k.toNat (a k, cta a yc g k) (by rw [List.getElem?_append_left (by omega)]; exact wo_at h0 (by omega))
      unfold ctx
      rw [if_pos hk, at_cg e2 h0 hk, e2 k h0 hk, cta_L a yc (mz g) g k (by funext j; unfold mz; rw [if_neg (by omega)])]
      exact h3
    · have hk : k = 86 := by omega
      subst hk
      have h3 := hP1 86 (q, .inl (yc 0, 8, .inl (fun _ => 0))) (by rw [List.getElem?_append_right (by omega), hlen]; rfl)
      rw [e3, cx_tmp]
      have e5 : (fun j : Nat => iI (mz g 86 (j : Int))) = fun _ => 0 := by funext j; unfold mz; rw [if_pos rfl]; rfl
      rw [e5]; exact h3
  have hDx : ∀ g', va_D A (xw (au a q) yc g') := by
    intro g'
    have h1 := wo_D.mp (C.hD g)
    have h2 : ∀ k : Int, 0 ≤ k → k < 86 → a k ≠ q := fun k h0 hk he => by
      have := hD1.1 k.toNat 86 (a k, cta a yc g k) (q, .inl (yc 0, 8, .inl (fun _ => 0))) (by rw [List.getElem?_append_left (by omega)]; exact wo_at h0 (by omega)) (by rw [List.getElem?_append_right (by omega), hlen]; rfl) he
      omega
    refine wo_D.mpr ⟨fun i j hi hi2 hj hj2 he => ?_, fun k h0 hk => ?_⟩
    · by_cases ci : i = 86 <;> by_cases cj : j = 86
      · omega
      · rw [ci, e3, e2 j hj (by omega)] at he; exact absurd he.symm (h2 j hj (by omega))
      · rw [cj, e3, e2 i hi (by omega)] at he; exact absurd he (h2 i hi (by omega))
      · rw [e2 i hi (by omega), e2 j hj (by omega)] at he; exact h1.1 i j hi (by omega) hj (by omega) he
    · by_cases ck : k = 86
      · rw [ck, e3]; exact hD1.2 86 (q, .inl (yc 0, 8, .inl (fun _ => 0))) (by rw [List.getElem?_append_right (by omega), hlen]; rfl)
      · rw [e2 k h0 (by omega)]; exact h1.2 k h0 (by omega)
  have k3 := kk (au a q) e2 ⟨C.1, C.hK, hDx, C.hF, C.hr, C.hlk⟩ H1 locs ls hPx hS1 hl
  rw [e3] at k3
  exact k3
/-- what is behind a method that hands out such a row -/
def BX (D : va_G) (yc : Nat → ClassId) (A : Nat → Prop) (a : Int → Nat) (u : Mm) (ra : Nat) (t : State) : Prop :=
  ∃ a2 : Int → Nat, (∀ k, 0 ≤ k → k < 86 → a2 k = a k) ∧ a2 86 = ra ∧ va_P D vwCl (xw a2 yc u) t.heap ∧ ∀ g', va_D A (xw a2 yc g')
/-- the world, and all that is new may be written -/
def WA (D : va_G) (yc : Nat → ClassId) (t1 t2 : Nat) (A : Nat → Prop) (a : Int → Nat) (g : Mm) (U : State) : Prop := Wd D yc t1 t2 A (cw a yc) g U ∧ ∀ q, U.heap.size ≤ q → A q
theorem WA.blind (av : List Value) : FrameBlind (va_Pc av (WA D yc t1 t2 A a g)) := by
  intro b U fr mk h
  obtain ⟨h1, h2, h3⟩ := h
  exact ⟨h1, (Wd.blind av b U fr mk ⟨h1, h2⟩).2, h3⟩
theorem start_r {yn : MethodName} {ws ws' : List Cond} {rm : Room} {av : List Value} {mc ms : Nat} {post : Mm → Prop} (hy : plainName yn.cls = true) (hw : ws = Cond.code yn cc nL ret :: ws') (ho : yn.cls = own) (hlen : (lg_sl av).length ≤ nL)
    (body : ∀ (p : Program) (e : Env) (s : State) (m : MethodId) (below : List Frame) (meth : Method) (c : Code), VC p s m av.toArray meth c cc nL ws own ret D yc t1 t2 A (cw a yc) → (∀ q, s.heap.size ≤ q → A q) → VX p l e rm s m av.toArray below meth c nL 0 0 D A (cw a yc) (MQ below (va_Qr post (BX D yc A a) A) av.toArray s mc ms A) 0 (lv_args 0 av) [] g) : Met l yn ws rm (va_Pc av (WA D yc t1 t2 A a g)) (va_Qr post (BX D yc A a) A) mc ms A := by
  refine Met.ofW (cc := cc) (maxL := nL) (ret := ret) hy hw ?_
  intro p e s m args below meth c s₁ B hml hv
  obtain ⟨rfl, ⟨hP, hK, hD, hF⟩, hA⟩ := hv
  have hown : s.vm.findClass own = some m.cls := by rw [← ho]; exact findClass_of_methodNamed B.named
  rw [lg_entry_eq]
  exact body p e s m below meth c ⟨⟨B.exec, B.bytes, hml, hown, atoms_spec (ws := ws) B.pre⟩, hK, hD, hF, B.returns, B.notSynchronized⟩ hA s.heap [] _ hP va_S.rf (lv_entry av hlen)
theorem start_ia {yn : MethodName} {ws ws' : List Cond} {rm : Room} {av : List Value} {mc ms : Nat} {post : Int32 → Mm → Prop} (hy : plainName yn.cls = true) (hw : ws = Cond.code yn cc nL ret :: ws') (ho : yn.cls = own) (hlen : (lg_sl av).length ≤ nL)
    (body : ∀ (p : Program) (e : Env) (s : State) (m : MethodId) (below : List Frame) (meth : Method) (c : Code), VC p s m av.toArray meth c cc nL ws own ret D yc t1 t2 A (cw a yc) → (∀ q, s.heap.size ≤ q → A q) → VX p l e rm s m av.toArray below meth c nL 0 0 D A (cw a yc) (MQ below (va_Qi post (fun g' t => va_P D vwCl (cw a yc g') t.heap) A) av.toArray s mc ms A) 0 (lv_args 0 av) [] g) : Met l yn ws rm (va_Pc av (WA D yc t1 t2 A a g)) (va_Qi post (fun g' t => va_P D vwCl (cw a yc g') t.heap) A) mc ms A := by
  refine Met.ofW (cc := cc) (maxL := nL) (ret := ret) hy hw ?_
  intro p e s m args below meth c s₁ B hml hv
  obtain ⟨rfl, ⟨hP, hK, hD, hF⟩, hA⟩ := hv
  have hown : s.vm.findClass own = some m.cls := by rw [← ho]; exact findClass_of_methodNamed B.named
  rw [lg_entry_eq]
  exact body p e s m below meth c ⟨⟨B.exec, B.bytes, hml, hown, atoms_spec (ws := ws) B.pre⟩, hK, hD, hF, B.returns, B.notSynchronized⟩ hA s.heap [] _ hP va_S.rf (lv_entry av hlen)
theorem x_ret_r {a2 : Int → Nat} (C : VC p s m args meth c cc nL Ts own ret D yc t1 t2 A (xw a2 yc)) (e2 : ∀ k, 0 ≤ k → k < 86 → a2 k = a k) {post : Mm → Prop} (hr : ret = some (.array .int)) (d : decode cc pc = .ok (.areturn, 1)) (h : post g) : VX p l e R s m args below meth c nL kc ks D A (xw a2 yc) (MQ below (va_Qr post (BX D yc A a) A) args s kc ks A) pc lv [.ref (a2 86)] g := fun H locs ls hP hS hl => W.aret (v := .ref (a2 86)) (rt := .array .int) C.hx C.hb (C.hr.trans hr) (Or.inr ⟨_, rfl⟩) (Or.inr ⟨_, rfl⟩) (fun t ht hW => ⟨⟨g, a2 86, rfl, h, a2, e2, rfl, by rw [ht]; exact hP, C.hD⟩, hS.F ht⟩) hS.2.2 d C.hlk
theorem x_ret_ix {a2 : Int → Nat} (C : VC p s m args meth c cc nL Ts own ret D yc t1 t2 A (xw a2 yc)) (e2 : ∀ k, 0 ≤ k → k < 86 → a2 k = a k) {post : Int32 → Mm → Prop} {x : Int32} {g0 : Mm} (hr : ret = some .int) (d : decode cc pc = .ok (.ireturn, 1)) (h : (∀ q, q ≠ 86 → g q = g0 q) ∧ post x g0) : VX p l e R s m args below meth c nL kc ks D A (xw a2 yc) (MQ below (va_Qi post (fun g' t => va_P D vwCl (cw a yc g') t.heap) A) args s kc ks A) pc lv [.int x] g := fun H locs ls hP hS hl => W.iret (v := x) C.hx C.hb (C.hr.trans hr) (fun t ht hW => ⟨⟨x, g0, rfl, h.2, by show va_P D vwCl (cw a yc g0) t.heap; rw [ht]; exact cw_cg h.1 (xw_cw e2 hP)⟩, hS.F ht⟩) hS.2.2 d C.hlk
theorem x_cVr (C : VC p s m args meth c cc nL Ts own ret D yc t1 t2 A (cw a yc)) (hA : ∀ q, s.heap.size ≤ q → A q) {yn : MethodName} {wsc : List Cond} {rmc : Room} {b mc ms : Nat} {As rest st0 : List Value} {post : Mm → Prop} {Cn : String} {index maxL nA : Nat} {bytes : ByteArray} {rtc : Option FieldType} (hk : kc + mc ≤ R.cells ∧ ks + ms ≤ R.slots) (hM : Met l yn wsc rmc (va_Pc (.ref b :: As) (WA D yc t1 t2 A a g)) (va_Qr post (BX D yc A a) A) mc ms A) (cw9 : CallW R s args own Cn index yn bytes maxL rtc wsc rmc mc ms nA) (hrc : ∀ H, va_P D vwCl (cw a yc g) H → ∃ cell : Cell, H[b]? = some cell ∧ cell.vm.isStatics = false ∧ s.vm.findClass Cn = some cell.cls) (hn : As.length = nA) (hst : st0 = As.reverse ++ .ref b :: rest) (hrm : (rest.map fun v => v.category).sum ≤ 8) (d : decode cc pc = .ok (.invokevirtual index, 3))
    (kk : ∀ (a2 : Int → Nat), (∀ k, 0 ≤ k → k < 86 → a2 k = a k) → VC p s m args meth c cc nL Ts own ret D yc t1 t2 A (xw a2 yc) → ∀ g', post g' → VX p l e R s m args below meth c nL (kc + mc) (ks + ms) D A (xw a2 yc) Q (pc + 3) lv (.ref (a2 86) :: rest) g') : VX p l e R s m args below meth c nL kc ks D A (cw a yc) Q pc lv st0 g := fun H locs ls hP hS hl => va_callr (va_runV (As := As) (rest := rest) C.1 hM cw9 ⟨WA.blind _, hrc H hP, fun U hU hW => ⟨rfl, Wd.at C hP hS hU hW, fun q h => hA q (Nat.le_trans hS.1 (by rw [← hU]; exact h))⟩⟩ rfl hn hl.1 hst (lv_room hrm) d hk) hS (fun q _ h => h) (fun q h => h) (fun u ra t H1 locs1 ht _ hp hb _ _ hS1 => by
    obtain ⟨a2, h1, h2, h3, h4⟩ := hb
    have := kk a2 h1 ⟨C.1, C.hK, h4, C.hF, C.hr, C.hlk⟩ u hp H1 locs1 ls (by rw [← ht]; exact h3) hS1 hl
    rw [h2] at this
    exact this)
end XE
