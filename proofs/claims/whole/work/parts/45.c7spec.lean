/-! Bits counted; sets joined and met. -/
section B7
variable {p : Program} {l : Launch} {e : Env} {R : Room} {s : State} {m : MethodId} {args : Array Value} {below : List Frame} {meth : Method} {c : Code} {cc : ByteArray} {nL : Nat} {Ts : List Cond} {own : String} {ret : Option FieldType} {D : va_G} {yc : Nat → ClassId} {t1 t2 : Nat} {A : Nat → Prop} {Q : State → Prop} {pc : Nat} {lv : List (Nat × Value)} {st : List Value} {M : Type} {ww : M → va_W} {g : M}
theorem v_ldcw (C : VC p s m args meth c cc nL Ts own ret D yc t1 t2 A ww) {index : Nat} {v : Int32} {z : Int} (hw : Cond.constant own index v ∈ Ts) (d : decode cc pc = .ok (.ldc_w index, 3)) (hv : v = iI z) (k : V p l e R s m args below meth c nL D A ww Q (pc + 3) lv (.int (iI z) :: st) g) : V p l e R s m args below meth c nL D A ww Q pc lv st g := fun H locs ls hP hS hl => lv_ldcw C.hx C.hb C.hown (C.hts _ hw) d (hv ▸ k H locs ls hP hS hl)
end B7
def us (x k : Int) : Int := ((iI x).toUInt32 >>> ((iI k).toUInt32 &&& Int32.toUInt32 31)).toInt32.toInt
def an2 (x y : Int) : Int := (iI x &&& iI y).toInt
def bc1 (z : Int) : Int := z - an2 (us z 1) 1431655765
def bc2 (z : Int) : Int := an2 (bc1 z) 858993459 + an2 (us (bc1 z) 2) 858993459
def bc3 (z : Int) : Int := an2 (bc2 z + us (bc2 z) 4) 252645135
def bc4 (z : Int) : Int := bc3 z + us (bc3 z) 8
def bc5 (z : Int) : Int := bc4 z + us (bc4 z) 16
def bc6 (z : Int) : Int := an2 (bc5 z) 63
theorem bc_tab : ∀ z : Fin 256, bc6 (z.val : Int) = sI (bt (z.val : Int)) 24 := by decide +kernel
theorem bc_e {z : Int} (h0 : 0 ≤ z) (h : z < 256) : bc6 z = sI (bt z) 24 := by
  have := bc_tab ⟨z.toNat, by omega⟩
  simp only at this
  rw [show ((z.toNat : Nat) : Int) = z by omega] at this
  exact this
theorem or2_g {x y : Int} (hx : 0 ≤ x) (hy : 0 ≤ y) : iI x ||| iI y = iI (or2 x y) := by
  obtain ⟨n, rfl⟩ := Int.eq_ofNat_of_zero_le hx
  obtain ⟨m, rfl⟩ := Int.eq_ofNat_of_zero_le hy
  rw [iI_nI, iI_nI, nI_or]; unfold or2; rw [iI_nI]; rfl
theorem or2_bd {x y n : Int} (hx : 0 ≤ x) (hy : 0 ≤ y) (hn : 0 ≤ n) (hx2 : x < pw n) (hy2 : y < pw n) : 0 ≤ or2 x y ∧ or2 x y < pw n := by
  obtain ⟨k, rfl⟩ := Int.eq_ofNat_of_zero_le hn
  rw [pw_N] at hx2 hy2 ⊢
  unfold or2
  have := Nat.or_lt_two_pow (n := k) (x := x.toNat) (y := y.toNat) (by omega) (by omega)
  omega
def ad (x y : Int) : Int := ((x.toNat &&& y.toNat : Nat) : Int)
theorem nI_and (a b : Nat) : nI a &&& nI b = nI (a &&& b) := by
  apply Int32.toBitVec_inj.mp
  show BitVec.ofNat 32 a &&& BitVec.ofNat 32 b = BitVec.ofNat 32 (a &&& b)
  exact (BitVec.ofNat_and).symm
theorem ad_e {x y : Int} (hx : 0 ≤ x) (hy : 0 ≤ y) : iI x &&& iI y = iI (ad x y) := by
  obtain ⟨n, rfl⟩ := Int.eq_ofNat_of_zero_le hx
  obtain ⟨m, rfl⟩ := Int.eq_ofNat_of_zero_le hy
  rw [iI_nI, iI_nI, nI_and]; unfold ad; rw [iI_nI]; rfl
theorem ad_bd {x y : Int} (hx : 0 ≤ x) (hx2 : x < 256) : 0 ≤ ad x y ∧ ad x y < 256 := by
  unfold ad
  have := Nat.and_le_left (n := x.toNat) (m := y.toNat)
  omega
theorem ones_tab : ∀ n : Fin 9, ∀ x : Fin 256, x.val < 2 ^ n.val → sI (bt (x.val : Int)) 24 ≤ (n.val : Int) := by decide +kernel
theorem ones_le {n x : Int} (hn : 0 ≤ n) (hn8 : n ≤ 8) (hx : 0 ≤ x) (hx2 : x < pw n) : sI (bt x) 24 ≤ n := by
  have h8 := pw_8 hn hn8
  have e := pw_N n.toNat
  rw [show ((n.toNat : Nat) : Int) = n by omega] at e
  have := ones_tab ⟨n.toNat, by omega⟩ ⟨x.toNat, by omega⟩ (by show x.toNat < 2 ^ n.toNat; omega)
  simp only at this
  rw [show ((x.toNat : Nat) : Int) = x by omega] at this
  omega
theorem lshl_1 {k : Int} (h0 : 0 ≤ k) (h : k ≤ 8) : lI 1 <<< ((iI k).toInt64 &&& 63) = lI (pw k) := by
  rcases (show k = 0 ∨ k = 1 ∨ k = 2 ∨ k = 3 ∨ k = 4 ∨ k = 5 ∨ k = 6 ∨ k = 7 ∨ k = 8 by omega) with rfl | rfl | rfl | rfl | rfl | rfl | rfl | rfl | rfl <;> decide
theorem wc_tab : ∀ n : Fin 9, ∀ c : Fin 256, 1 ≤ n.val → c.val < 2 ^ n.val → sI (bt (ad (xr (c.val : Int) ((c.val : Int) / pw 1)) (pw ((n.val : Int) - 1) - 1))) 24 = wkB (n.val : Int) (c.val : Int) := by decide +kernel
theorem wc_e {n c : Int} (hn : 1 ≤ n) (hn8 : n ≤ 8) (hc : 0 ≤ c) (hc2 : c < pw n) : sI (bt (ad (xr c (c / pw 1)) (pw (n - 1) - 1))) 24 = wkB n c := by
  have h8 := pw_8 (n := n) (by omega) hn8
  have e := pw_N n.toNat
  rw [show ((n.toNat : Nat) : Int) = n by omega] at e
  have := wc_tab ⟨n.toNat, by omega⟩ ⟨c.toNat, by omega⟩ (by show 1 ≤ n.toNat; omega) (by show c.toNat < 2 ^ n.toNat; omega)
  simp only at this
  rw [show ((c.toNat : Nat) : Int) = c by omega, show ((n.toNat : Nat) : Int) = n by omega] at this
  exact this
/-- the lead by a code is the reference's, turned -/
theorem ap_ld {F : Int → Int} {n c : Int} (hn : 0 ≤ n) : sI (fun e => if bt c (n - 1 - e) = 0 then mOn F e else -mOn F e) n = -sI (apS F n c) n := by
  suffices h : ∀ k : Nat, sI (fun e => if bt c (n - 1 - e) = 0 then mOn F e else -mOn F e) (k : Int) = -sI (apS F n c) (k : Int) by
    have := h n.toNat
    rw [show ((n.toNat : Nat) : Int) = n by omega] at this
    exact this
  intro k
  induction k with
  | zero => rfl
  | succ k ih =>
    rw [show ((k + 1 : Nat) : Int) = (k : Int) + 1 by omega, sI_s _ (by omega), sI_s _ (by omega), ih]
    have := bt01 c (n - 1 - (k : Int))
    unfold apS
    rcases this with h | h
    · rw [if_pos h, if_neg (by omega)]; omega
    · rw [if_neg (by omega), if_pos h]; omega
