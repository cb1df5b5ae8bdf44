/-! Math and arraycopy. -/
section LR
variable {p : Program} {l : Launch} {e : Env} {R : Room} {s : State} {m : MethodId} {args : Array Value} {below : List Frame} {meth : Method} {c : Code} {cc : ByteArray} {nL : Nat} {Ts : List Cond} {own : String} {ret : Option FieldType} {D : va_G} {yc : Nat → ClassId} {t1 t2 : Nat} {A : Nat → Prop} {Q : State → Prop} {pc : Nat} {lv : List (Nat × Value)} {st : List Value} {M : Type} {ww : M → va_W} {g : M}
theorem v_mmax (C : VC p s m args meth c cc nL Ts own ret D yc t1 t2 A ww) {x y : Int} {index : Nat} (w1 : Cond.methodLink own index Lib.Math.max.name ∈ Ts) (w2 : Cond.static Lib.Math.max.name ∈ Ts) (w3 : Cond.initialized "java/lang/Math" ∈ Ts) (w4 : Cond.code Lib.Math.max.name Lib.Math.max.code 2 (some .int) ∈ Ts) (hf : 1 ≤ R.frames) (hlo : (st.map fun v => v.category).sum + 13 ≤ R.locals) (hx : R32 x) (hy : R32 y) (d : decode cc pc = .ok (.invokestatic index, 3)) (k : V p l e R s m args below meth c nL D A ww Q (pc + 3) lv (.int (iI (if x < y then y else x)) :: st) g) : V p l e R s m args below meth c nL D A ww Q pc lv (.int (iI y) :: .int (iI x) :: st) g := by
  intro H locs ls hP hS hl
  refine va_mmax C.hx C.hb (C.hml.trans hl.1.symm) C.hown (C.hts _ w1) (C.hts _ w2) (C.hts _ w3) (C.hts _ w4) hf hlo (Nat.zero_le _) (Nat.zero_le _) d ?_
  have e : (if iI x < iI y then iI y else iI x) = iI (if x < y then y else x) := by
    by_cases h : x < y
    · rw [if_pos h, if_pos ((iI_lt hx hy).mpr h)]
    · rw [if_neg h, if_neg (fun q => h ((iI_lt hx hy).mp q))]
  rw [e]
  exact k H locs ls hP hS hl
theorem v_mmin (C : VC p s m args meth c cc nL Ts own ret D yc t1 t2 A ww) {x y : Int} {index : Nat} (w1 : Cond.methodLink own index Lib.Math.min.name ∈ Ts) (w2 : Cond.static Lib.Math.min.name ∈ Ts) (w3 : Cond.initialized "java/lang/Math" ∈ Ts) (w4 : Cond.code Lib.Math.min.name Lib.Math.min.code 2 (some .int) ∈ Ts) (hf : 1 ≤ R.frames) (hlo : (st.map fun v => v.category).sum + 13 ≤ R.locals) (hx : R32 x) (hy : R32 y) (d : decode cc pc = .ok (.invokestatic index, 3)) (k : V p l e R s m args below meth c nL D A ww Q (pc + 3) lv (.int (iI (if y < x then y else x)) :: st) g) : V p l e R s m args below meth c nL D A ww Q pc lv (.int (iI y) :: .int (iI x) :: st) g := by
  intro H locs ls hP hS hl
  refine va_mmin C.hx C.hb (C.hml.trans hl.1.symm) C.hown (C.hts _ w1) (C.hts _ w2) (C.hts _ w3) (C.hts _ w4) hf hlo (Nat.zero_le _) (Nat.zero_le _) d ?_
  have e : (if iI y < iI x then iI y else iI x) = iI (if y < x then y else x) := by
    by_cases h : y < x
    · rw [if_pos h, if_pos ((iI_lt hy hx).mpr h)]
    · rw [if_neg h, if_neg (fun q => h ((iI_lt hy hx).mp q))]
  rw [e]
  exact k H locs ls hP hS hl
theorem v_mabs (C : VC p s m args meth c cc nL Ts own ret D yc t1 t2 A ww) {x : Int} {index : Nat} (w1 : Cond.methodLink own index Lib.Math.abs.name ∈ Ts) (w2 : Cond.static Lib.Math.abs.name ∈ Ts) (w3 : Cond.initialized "java/lang/Math" ∈ Ts) (w4 : Cond.code Lib.Math.abs.name Lib.Math.abs.code 1 (some .int) ∈ Ts) (hf : 1 ≤ R.frames) (hlo : (st.map fun v => v.category).sum + 13 ≤ R.locals) (hx : R32 x) (d : decode cc pc = .ok (.invokestatic index, 3)) (k : V p l e R s m args below meth c nL D A ww Q (pc + 3) lv (.int (iI (if 0 ≤ x then x else -x)) :: st) g) : V p l e R s m args below meth c nL D A ww Q pc lv (.int (iI x) :: st) g := by
  intro H locs ls hP hS hl
  refine va_mabs C.hx C.hb (C.hml.trans hl.1.symm) C.hown (C.hts _ w1) (C.hts _ w2) (C.hts _ w3) (C.hts _ w4) hf hlo (Nat.zero_le _) (Nat.zero_le _) d ?_
  have e : (if 0 ≤ iI x then iI x else 0 - iI x) = iI (if 0 ≤ x then x else -x) := by
    have h0 : iI 0 = 0 := rfl
    by_cases h : 0 ≤ x
    · rw [if_pos h, if_pos (by rw [← h0]; exact (iI_le ⟨by omega, by omega⟩ hx).mpr h)]
    · rw [if_neg h, if_neg (by rw [← h0]; exact fun q => h ((iI_le ⟨by omega, by omega⟩ hx).mp q)), ← h0, iI_sub]
      congr 1; omega
  rw [e]
  exact k H locs ls hP hS hl
end LR
/-- n places from sp on of row q0 come to those from dp on of row q1 -/
def mcp (g : Mm) (q0 sp q1 dp n : Int) : Mm := fun p j => if p = q1 ∧ dp ≤ j ∧ j < dp + n then g q0 (sp + (j - dp)) else g p j
theorem wo_set2 {n : Nat} {a : Int → Nat} {ct : Mm → Int → va_E} (hc : Lc ct) {g g' : Mm} {q : Int} (hoff : ∀ q', q' ≠ q → g' q' = g q') (h0 : 0 ≤ q) (h : q < n) {e : va_E} (he : e = ct g' q) : (wo n a ct g).set q.toNat (a q, e) = wo n a ct g' := by
  apply List.ext_getElem?
  intro i
  rw [List.getElem?_set]
  have hlen : (wo n a ct g).length = n := by unfold wo; simp
  by_cases hi : i < n
  · have e2 : (wo n a ct g')[i]? = some (a (i : Int), ct g' (i : Int)) := wo_at (q := (i : Int)) (by omega) (by omega)
    rw [e2]
    by_cases hq : q.toNat = i
    · rw [if_pos hq, hlen, if_pos (by omega)]
      have hqi : q = (i : Int) := by omega
      rw [he, hqi]
    · rw [if_neg hq]
      have e1 : (wo n a ct g)[i]? = some (a (i : Int), ct g (i : Int)) := wo_at (q := (i : Int)) (by omega) (by omega)
      rw [e1, hc g' g (i : Int) (hoff _ (by omega))]
  · have e1 : (wo n a ct g)[i]? = none := List.getElem?_eq_none (by omega)
    have e2 : (wo n a ct g')[i]? = none := List.getElem?_eq_none (by unfold wo; simp; omega)
    rw [e1, e2, if_neg (by omega)]
section LA
variable {p : Program} {l : Launch} {e : Env} {R : Room} {s : State} {m : MethodId} {args : Array Value} {below : List Frame} {meth : Method} {c : Code} {cc : ByteArray} {nL : Nat} {Ts : List Cond} {own : String} {ret : Option FieldType} {D : va_G} {yc : Nat → ClassId} {t1 t2 : Nat} {A : Nat → Prop} {Q : State → Prop} {pc : Nat} {lv : List (Nat × Value)} {st : List Value} {n : Nat} {a : Int → Nat} {ct : Mm → Int → va_E} {g : Mm}
theorem v_acopy (C : VC p s m args meth c cc nL Ts own ret D yc t1 t2 A (wo n a ct)) (hL : Lc ct) {q0 q1 sp dp k : Int} {index n0 n1 : Nat} (w1 : Cond.methodLink own index arraycopyName ∈ Ts) (w2 : Cond.native arraycopyName ∈ Ts) (w3 : Cond.static arraycopyName ∈ Ts) (w4 : Cond.initialized "java/lang/System" ∈ Ts)
    (h00 : 0 ≤ q0) (h01 : q0 < n) (h10 : 0 ≤ q1) (h11 : q1 < n) (he0 : ct g q0 = .inl (yc 0, n0, .inl (fun j : Nat => iI (g q0 (j : Int))))) (he1 : ct g q1 = .inl (yc 0, n1, .inl (fun j : Nat => iI (g q1 (j : Int))))) (hs : (.inl (yc 0, n1, .inl (fun j : Nat => iI (mcp g q0 sp q1 dp k q1 (j : Int)))) : va_E) = ct (mcp g q0 sp q1 dp k) q1)
    (h1 : 0 ≤ sp) (h2 : 0 ≤ dp) (h3 : 0 ≤ k) (h4 : sp + k ≤ n0) (h5 : dp + k ≤ n1) (hn0 : n0 < 2147483648) (hn1 : n1 < 2147483648) (hf : 1 ≤ R.frames) (hlo : (st.map fun v => v.category).sum + (nativeFrameWords "java/lang/System" "arraycopy" 5 + 11) ≤ R.locals) (d : decode cc pc = .ok (.invokestatic index, 3))
    (kk : V p l e R s m args below meth c nL D A (wo n a ct) Q (pc + 3) lv st (mcp g q0 sp q1 dp k)) : V p l e R s m args below meth c nL D A (wo n a ct) Q pc lv (.int (iI k) :: .int (iI dp) :: .ref (a q1) :: .int (iI sp) :: .ref (a q0) :: st) g := by
  intro H locs ls hP hS hl
  have z0 : iI 0 = 0 := rfl
  have nn : ∀ z : Int, 0 ≤ z → z < 2147483648 → ¬ iI z < 0 := fun z a1 a2 q => by
    rw [← z0, iI_lt ⟨by omega, a2⟩ ⟨by omega, by omega⟩] at q; omega
  refine va_copyi (ty := .int) C.hx C.hb (C.hml.trans hl.1.symm) C.hown (C.hts _ w1) (C.hts _ w2) (C.hts _ w3) (C.hts _ w4) C.hK hP (C.hD g) hS q0.toNat q1.toNat 0 0 (wo_is h00 h01 he0) (wo_is h10 h11 he1) rfl rfl rfl (nn _ h1 (by omega)) (nn _ h2 (by omega)) (nn _ h3 (by omega)) (by rw [iI_cl ⟨by omega, by omega⟩, iI_cl ⟨by omega, by omega⟩]; omega) (by rw [iI_cl ⟨by omega, by omega⟩, iI_cl ⟨by omega, by omega⟩]; omega) (fun _ _ => rfl) hf hlo d (fun H1 locs1 hP1 _ hS1 => ?_)
  refine kk H1 locs1 ls ?_ hS1 hl
  have e : va_cpy (fun j : Nat => iI (g q0 (j : Int))) (fun j : Nat => iI (g q1 (j : Int))) (iI sp).toNatClampNeg (iI dp).toNatClampNeg (iI k).toNatClampNeg = fun j : Nat => iI (mcp g q0 sp q1 dp k q1 (j : Int)) := by
    funext j
    rw [iI_cl ⟨by omega, by omega⟩, iI_cl ⟨by omega, by omega⟩, iI_cl ⟨by omega, by omega⟩]
    unfold va_cpy mcp
    by_cases h : dp ≤ (j : Int) ∧ (j : Int) < dp + k
    · rw [if_pos ⟨by omega, by omega⟩, if_pos ⟨rfl, h.1, h.2⟩]
      show iI (g q0 ((sp.toNat + (j - dp.toNat) : Nat) : Int)) = _
      rw [show ((sp.toNat + (j - dp.toNat) : Nat) : Int) = sp + ((j : Int) - dp) by omega]
    · rw [if_neg (by omega), if_neg (fun q => h q.2)]
  rw [e, wo_set2 hL (g' := mcp g q0 sp q1 dp k) (fun q' hq => by funext j; unfold mcp; rw [if_neg (fun z => hq z.1)]) h10 h11 hs] at hP1
  exact hP1
end LA
