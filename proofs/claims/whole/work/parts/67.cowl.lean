/-! What the constructors make, in the worlds' own order. -/
def cowl (a : Int → Nat) (yc : Nat → ClassId) : va_W := [(a 0, .inr (4, [.ref (a 1), .ref (a 2), .ref (a 26), .ref (a 3), .ref (a 4), .ref (a 5), .int 0, .int 0, .long 0, .long (lI (1))])), (a 1, .inl (yc 4, 6, .inr (.inr (.inr (.inr (va_up (va_up (va_up (va_up (va_up (va_up (fun _ => none) 0 (some (a 6))) 1 (some (a 7))) 2 (some (a 8))) 3 (some (a 9))) 4 (some (a 10))) 5 (some (a 11)))))))), (a 2, .inl (yc 4, 4, .inr (.inr (.inr (.inr (va_up (va_up (va_up (va_up (fun _ => none) 0 (some (a 12))) 1 (some (a 13))) 2 (some (a 14))) 3 (some (a 15)))))))), (a 26, .inr (1, [.ref (a 31), .ref (a 36), .ref (a 41), .ref (a 46), .ref (a 51), .int 0, .int 0, .int 0, .int 0, .int 0, .int 0])), (a 31, .inl (yc 0, 8, .inl (fun _ => 0))), (a 36, .inl (yc 0, 6, .inl (fun _ => 0))), (a 41, .inl (yc 2, 6, .inr (.inr (.inr (.inr (va_up (va_up (va_up (va_up (va_up (va_up (fun _ => none) 0 (some (a 56))) 1 (some (a 57))) 2 (some (a 58))) 3 (some (a 59))) 4 (some (a 60))) 5 (some (a 61)))))))), (a 46, .inl (yc 0, 60, .inl (fun _ => 0))), (a 51, .inl (yc 0, 60, .inl (fun _ => 0))), (a 56, .inr (0, [.int 0, .int 0, .int 0, .int 0, .int 0])), (a 57, .inr (0, [.int 0, .int 0, .int 0, .int 0, .int 0])), (a 58, .inr (0, [.int 0, .int 0, .int 0, .int 0, .int 0])), (a 59, .inr (0, [.int 0, .int 0, .int 0, .int 0, .int 0])), (a 60, .inr (0, [.int 0, .int 0, .int 0, .int 0, .int 0])), (a 61, .inr (0, [.int 0, .int 0, .int 0, .int 0, .int 0])), (a 3, .inl (yc 3, 3, .inr (.inr (.inr (.inr (va_up (va_up (va_up (fun _ => none) 0 (some (a 27))) 1 (some (a 28))) 2 (some (a 29)))))))), (a 4, .inr (2, [.ref (a 30), .int 0])), (a 30, .inr (1, [.ref (a 35), .ref (a 40), .ref (a 45), .ref (a 50), .ref (a 55), .int 0, .int 0, .int 0, .int 0, .int 0, .int 0])), (a 35, .inl (yc 0, 8, .inl (fun _ => 0))), (a 40, .inl (yc 0, 6, .inl (fun _ => 0))), (a 45, .inl (yc 2, 6, .inr (.inr (.inr (.inr (va_up (va_up (va_up (va_up (va_up (va_up (fun _ => none) 0 (some (a 80))) 1 (some (a 81))) 2 (some (a 82))) 3 (some (a 83))) 4 (some (a 84))) 5 (some (a 85)))))))), (a 50, .inl (yc 0, 60, .inl (fun _ => 0))), (a 55, .inl (yc 0, 60, .inl (fun _ => 0))), (a 80, .inr (0, [.int 0, .int 0, .int 0, .int 0, .int 0])), (a 81, .inr (0, [.int 0, .int 0, .int 0, .int 0, .int 0])), (a 82, .inr (0, [.int 0, .int 0, .int 0, .int 0, .int 0])), (a 83, .inr (0, [.int 0, .int 0, .int 0, .int 0, .int 0])), (a 84, .inr (0, [.int 0, .int 0, .int 0, .int 0, .int 0])), (a 85, .inr (0, [.int 0, .int 0, .int 0, .int 0, .int 0])), (a 5, .inl (yc 0, 6, .inl (fun _ => 0))), (a 6, .inr (3, [.ref (a 16), .int (iI (-1))])), (a 16, .inl (yc 0, 40, .inl (fun _ => 0))), (a 7, .inr (3, [.ref (a 17), .int (iI (-1))])), (a 17, .inl (yc 0, 40, .inl (fun _ => 0))), (a 8, .inr (3, [.ref (a 18), .int (iI (-1))])), (a 18, .inl (yc 0, 40, .inl (fun _ => 0))), (a 9, .inr (3, [.ref (a 19), .int (iI (-1))])), (a 19, .inl (yc 0, 40, .inl (fun _ => 0))), (a 10, .inr (3, [.ref (a 20), .int (iI (-1))])), (a 20, .inl (yc 0, 40, .inl (fun _ => 0))), (a 11, .inr (3, [.ref (a 21), .int (iI (-1))])), (a 21, .inl (yc 0, 40, .inl (fun _ => 0))), (a 12, .inr (3, [.ref (a 22), .int (iI (-1))])), (a 22, .inl (yc 0, 60, .inl (fun _ => 0))), (a 13, .inr (3, [.ref (a 23), .int (iI (-1))])), (a 23, .inl (yc 0, 60, .inl (fun _ => 0))), (a 14, .inr (3, [.ref (a 24), .int (iI (-1))])), (a 24, .inl (yc 0, 60, .inl (fun _ => 0))), (a 15, .inr (3, [.ref (a 25), .int (iI (-1))])), (a 25, .inl (yc 0, 60, .inl (fun _ => 0))), (a 27, .inr (1, [.ref (a 32), .ref (a 37), .ref (a 42), .ref (a 47), .ref (a 52), .int 0, .int 0, .int 0, .int 0, .int 0, .int 0])), (a 32, .inl (yc 0, 8, .inl (fun _ => 0))), (a 37, .inl (yc 0, 6, .inl (fun _ => 0))), (a 42, .inl (yc 2, 6, .inr (.inr (.inr (.inr (va_up (va_up (va_up (va_up (va_up (va_up (fun _ => none) 0 (some (a 62))) 1 (some (a 63))) 2 (some (a 64))) 3 (some (a 65))) 4 (some (a 66))) 5 (some (a 67)))))))), (a 47, .inl (yc 0, 60, .inl (fun _ => 0))), (a 52, .inl (yc 0, 60, .inl (fun _ => 0))), (a 62, .inr (0, [.int 0, .int 0, .int 0, .int 0, .int 0])), (a 63, .inr (0, [.int 0, .int 0, .int 0, .int 0, .int 0])), (a 64, .inr (0, [.int 0, .int 0, .int 0, .int 0, .int 0])), (a 65, .inr (0, [.int 0, .int 0, .int 0, .int 0, .int 0])), (a 66, .inr (0, [.int 0, .int 0, .int 0, .int 0, .int 0])), (a 67, .inr (0, [.int 0, .int 0, .int 0, .int 0, .int 0])), (a 28, .inr (1, [.ref (a 33), .ref (a 38), .ref (a 43), .ref (a 48), .ref (a 53), .int 0, .int 0, .int 0, .int 0, .int 0, .int 0])), (a 33, .inl (yc 0, 8, .inl (fun _ => 0))), (a 38, .inl (yc 0, 6, .inl (fun _ => 0))), (a 43, .inl (yc 2, 6, .inr (.inr (.inr (.inr (va_up (va_up (va_up (va_up (va_up (va_up (fun _ => none) 0 (some (a 68))) 1 (some (a 69))) 2 (some (a 70))) 3 (some (a 71))) 4 (some (a 72))) 5 (some (a 73)))))))), (a 48, .inl (yc 0, 60, .inl (fun _ => 0))), (a 53, .inl (yc 0, 60, .inl (fun _ => 0))), (a 68, .inr (0, [.int 0, .int 0, .int 0, .int 0, .int 0])), (a 69, .inr (0, [.int 0, .int 0, .int 0, .int 0, .int 0])), (a 70, .inr (0, [.int 0, .int 0, .int 0, .int 0, .int 0])), (a 71, .inr (0, [.int 0, .int 0, .int 0, .int 0, .int 0])), (a 72, .inr (0, [.int 0, .int 0, .int 0, .int 0, .int 0])), (a 73, .inr (0, [.int 0, .int 0, .int 0, .int 0, .int 0])), (a 29, .inr (1, [.ref (a 34), .ref (a 39), .ref (a 44), .ref (a 49), .ref (a 54), .int 0, .int 0, .int 0, .int 0, .int 0, .int 0])), (a 34, .inl (yc 0, 8, .inl (fun _ => 0))), (a 39, .inl (yc 0, 6, .inl (fun _ => 0))), (a 44, .inl (yc 2, 6, .inr (.inr (.inr (.inr (va_up (va_up (va_up (va_up (va_up (va_up (fun _ => none) 0 (some (a 74))) 1 (some (a 75))) 2 (some (a 76))) 3 (some (a 77))) 4 (some (a 78))) 5 (some (a 79)))))))), (a 49, .inl (yc 0, 60, .inl (fun _ => 0))), (a 54, .inl (yc 0, 60, .inl (fun _ => 0))), (a 74, .inr (0, [.int 0, .int 0, .int 0, .int 0, .int 0])), (a 75, .inr (0, [.int 0, .int 0, .int 0, .int 0, .int 0])), (a 76, .inr (0, [.int 0, .int 0, .int 0, .int 0, .int 0])), (a 77, .inr (0, [.int 0, .int 0, .int 0, .int 0, .int 0])), (a 78, .inr (0, [.int 0, .int 0, .int 0, .int 0, .int 0])), (a 79, .inr (0, [.int 0, .int 0, .int 0, .int 0, .int 0]))]
def modl (b : Int → Nat) (yc : Nat → ClassId) : va_W := [(b 0, .inr (5, [.ref (b 1), .ref (b 2), .ref (b 3), .ref (b 4), .ref (b 5), .ref (b 6), .ref (b 7), .ref (b 8), .ref (b 9), .ref (b 10), .int 0, .int 0, .long 0, .long (lI (1)), .ref (b 11), .int 0, .int 0])), (b 1, .inl (yc 0, 6, .inl (upd (upd (upd (upd (upd (upd (fun _ => 0) 0 (iI (-1))) 1 (iI (-1))) 2 (iI (-1))) 3 (iI (-1))) 4 (iI (-1))) 5 (iI (-1))))), (b 2, .inl (yc 0, 240, .inl (fun _ => 0))), (b 3, .inl (yc 0, 40, .inl (fun _ => 0))), (b 4, .inl (yc 0, 4, .inl (upd (upd (upd (upd (fun _ => 0) 0 (iI (-1))) 1 (iI (-1))) 2 (iI (-1))) 3 (iI (-1))))), (b 5, .inl (yc 0, 240, .inl (fun _ => 0))), (b 6, .inl (yc 0, 98, .inl (fun _ => 0))), (b 7, .inl (yc 0, 98, .inl (fun _ => 0))), (b 8, .inl (yc 0, 294, .inl (fun _ => 0))), (b 9, .inl (yc 1, 3, .inl (fun _ => 0))), (b 10, .inl (yc 0, 6, .inl (fun _ => 0))), (b 11, .inl (yc 0, 3, .inl (fun _ => 0)))]
theorem CL_mono {l : Launch} {yn : MethodName} {ws : List Cond} {rm : Room} {D : va_G} {yc : Nat → ClassId} {t1 t2 : Nat} {A : Nat → Prop} {av : List Value} {w0 : va_W} {post post' : va_W → Prop} {mc ms : Nat} (h : CL l yn ws rm D yc t1 t2 A av w0 post mc ms) (e : ∀ w, post w → post' w) : CL l yn ws rm D yc t1 t2 A av w0 post' mc ms := by
  unfold CL Met at h ⊢
  refine Jvm.Free.MetFree.mono h (fun _ _ p => p) (fun _ _ _ _ _ k => k) ?_
  intro a s o t _ q
  obtain ⟨⟨⟨u, h1, h2, h3⟩, h4⟩, h5⟩ := q
  exact ⟨⟨⟨u, h1, e u h2, h3⟩, h4⟩, h5⟩
set_option maxRecDepth 100000 in
set_option maxHeartbeats 4000000 in
theorem c_cow (l : Launch) (D : va_G) (yc : Nat → ClassId) (t1 t2 : Nat) (A : Nat → Prop) (q0 : Nat) : CL l yX4_init wsX4_init { frames := 4, cells := 85, slots := 1426, locals := 73 } D yc t1 t2 A [.ref q0] [(q0, .inr (4, [.null, .null, .null, .null, .null, .null, .int 0, .int 0, .long 0, .long 0]))] (fun w => ∃ a : Int → Nat, a 0 = q0 ∧ w = cowl a yc) 85 1426 := by
  refine CL_mono (c_X4_init l D yc t1 t2 A q0) ?_
  rintro w ⟨q1, q2, q3, q4, q5, q6, q7, q8, q9, q10, q11, q12, q13, q14, q15, q16, q17, q18, q19, q20, q21, q22, q23, q24, q25, q26, q27, q28, q29, q30, q31, q32, q33, q34, q35, q36, q37, q38, q39, q40, q41, q42, q43, q44, q45, q46, q47, q48, q49, q50, q51, q52, q53, q54, q55, q56, q57, q58, q59, q60, q61, q62, q63, q64, q65, q66, q67, q68, q69, q70, q71, q72, q73, q74, q75, q76, q77, q78, q79, q80, q81, q82, q83, q84, q85, rfl⟩
  exact ⟨fun k => ([q0, q1, q2, q15, q16, q29, q30, q32, q34, q36, q38, q40, q42, q44, q46, q48, q31, q33, q35, q37, q39, q41, q43, q45, q47, q49, q3, q50, q62, q74, q17, q4, q51, q63, q75, q18, q5, q52, q64, q76, q19, q6, q53, q65, q77, q20, q7, q54, q66, q78, q21, q8, q55, q67, q79, q22, q9, q10, q11, q12, q13, q14, q56, q57, q58, q59, q60, q61, q68, q69, q70, q71, q72, q73, q80, q81, q82, q83, q84, q85, q23, q24, q25, q26, q27, q28] : List Nat).getD k.toNat 0, rfl, rfl⟩
set_option maxRecDepth 100000 in
set_option maxHeartbeats 4000000 in
theorem c_mod (l : Launch) (D : va_G) (yc : Nat → ClassId) (t1 t2 : Nat) (A : Nat → Prop) (q0 : Nat) : CL l yX5_init wsX5_init { frames := 1, cells := 11, slots := 1032, locals := 12 } D yc t1 t2 A [.ref q0] [(q0, .inr (5, [.null, .null, .null, .null, .null, .null, .null, .null, .null, .null, .int 0, .int 0, .long 0, .long 0, .null, .int 0, .int 0]))] (fun w => ∃ a : Int → Nat, a 0 = q0 ∧ w = modl a yc) 11 1032 := by
  refine CL_mono (c_X5_init l D yc t1 t2 A q0) ?_
  rintro w ⟨q1, q2, q3, q4, q5, q6, q7, q8, q9, q10, q11, rfl⟩
  exact ⟨fun k => ([q0, q1, q2, q3, q4, q5, q6, q7, q8, q9, q10, q11] : List Nat).getD k.toNat 0, rfl, rfl⟩
def ixC : List Nat := [0, 1, 2, 15, 16, 29, 30, 32, 34, 36, 38, 40, 42, 44, 46, 48, 31, 33, 35, 37, 39, 41, 43, 45, 47, 49, 3, 50, 62, 74, 17, 4, 51, 63, 75, 18, 5, 52, 64, 76, 19, 6, 53, 65, 77, 20, 7, 54, 66, 78, 21, 8, 55, 67, 79, 22, 9, 10, 11, 12, 13, 14, 56, 57, 58, 59, 60, 61, 68, 69, 70, 71, 72, 73, 80, 81, 82, 83, 84, 85, 23, 24, 25, 26, 27, 28]
def sgC : List Int := [0, 1, 2, 26, 31, 36, 41, 46, 51, 56, 57, 58, 59, 60, 61, 3, 4, 30, 35, 40, 45, 50, 55, 80, 81, 82, 83, 84, 85, 5, 6, 16, 7, 17, 8, 18, 9, 19, 10, 20, 11, 21, 12, 22, 13, 23, 14, 24, 15, 25, 27, 32, 37, 42, 47, 52, 62, 63, 64, 65, 66, 67, 28, 33, 38, 43, 48, 53, 68, 69, 70, 71, 72, 73, 29, 34, 39, 44, 49, 54, 74, 75, 76, 77, 78, 79]
theorem ix_sg : ∀ k : Fin 86, sgC.getD (ixC.getD k.val 0) 0 = (k.val : Int) ∧ ixC.getD k.val 0 < 86 := by decide +kernel
theorem cowl_len (a : Int → Nat) (yc : Nat → ClassId) : (cowl a yc).length = 86 := rfl
theorem modl_len (b : Int → Nat) (yc : Nat → ClassId) : (modl b yc).length = 12 := rfl
set_option maxRecDepth 100000 in
set_option maxHeartbeats 4000000 in
theorem cowl_at (a : Int → Nat) (yc : Nat → ClassId) {k : Int} (h0 : 0 ≤ k) (h1 : k < 86) : ∃ e, (cowl a yc)[ixC.getD k.toNat 0]? = some (a k, e) := by
  rcases (show k = 0 ∨ k = 1 ∨ k = 2 ∨ k = 3 ∨ k = 4 ∨ k = 5 ∨ k = 6 ∨ k = 7 ∨ k = 8 ∨ k = 9 ∨ k = 10 ∨ k = 11 ∨ k = 12 ∨ k = 13 ∨ k = 14 ∨ k = 15 ∨ k = 16 ∨ k = 17 ∨ k = 18 ∨ k = 19 ∨ k = 20 ∨ k = 21 ∨ k = 22 ∨ k = 23 ∨ k = 24 ∨ k = 25 ∨ k = 26 ∨ k = 27 ∨ k = 28 ∨ k = 29 ∨ k = 30 ∨ k = 31 ∨ k = 32 ∨ k = 33 ∨ k = 34 ∨ k = 35 ∨ k = 36 ∨ k = 37 ∨ k = 38 ∨ k = 39 ∨ k = 40 ∨ k = 41 ∨ k = 42 ∨ k = 43 ∨ k = 44 ∨ k = 45 ∨ k = 46 ∨ k = 47 ∨ k = 48 ∨ k = 49 ∨ k = 50 ∨ k = 51 ∨ k = 52 ∨ k = 53 ∨ k = 54 ∨ k = 55 ∨ k = 56 ∨ k = 57 ∨ k = 58 ∨ k = 59 ∨ k = 60 ∨ k = 61 ∨ k = 62 ∨ k = 63 ∨ k = 64 ∨ k = 65 ∨ k = 66 ∨ k = 67 ∨ k = 68 ∨ k = 69 ∨ k = 70 ∨ k = 71 ∨ k = 72 ∨ k = 73 ∨ k = 74 ∨ k = 75 ∨ k = 76 ∨ k = 77 ∨ k = 78 ∨ k = 79 ∨ k = 80 ∨ k = 81 ∨ k = 82 ∨ k = 83 ∨ k = 84 ∨ k = 85 by omega) with rfl | rfl | rfl | rfl | rfl | rfl | rfl | rfl | rfl | rfl | rfl | rfl | rfl | rfl | rfl | rfl | rfl | rfl | rfl | rfl | rfl | rfl | rfl | rfl | rfl | rfl | rfl | rfl | rfl | rfl | rfl | rfl | rfl | rfl | rfl | rfl | rfl | rfl | rfl | rfl | rfl | rfl | rfl | rfl | rfl | rfl | rfl | rfl | rfl | rfl | rfl | rfl | rfl | rfl | rfl | rfl | rfl | rfl | rfl | rfl | rfl | rfl | rfl | rfl | rfl | rfl | rfl | rfl | rfl | rfl | rfl | rfl | rfl | rfl | rfl | rfl | rfl | rfl | rfl | rfl | rfl | rfl | rfl | rfl | rfl | rfl <;> exact ⟨_, rfl⟩
theorem modl_at (b : Int → Nat) (yc : Nat → ClassId) {k : Int} (h0 : 0 ≤ k) (h1 : k < 12) : ∃ e, (modl b yc)[k.toNat]? = some (b k, e) := by
  rcases (show k = 0 ∨ k = 1 ∨ k = 2 ∨ k = 3 ∨ k = 4 ∨ k = 5 ∨ k = 6 ∨ k = 7 ∨ k = 8 ∨ k = 9 ∨ k = 10 ∨ k = 11 by omega) with rfl | rfl | rfl | rfl | rfl | rfl | rfl | rfl | rfl | rfl | rfl | rfl <;> exact ⟨_, rfl⟩
def g0 : Mm := fun p j => if (6 ≤ p ∧ p < 16) ∧ j = 1 then -1 else if p = 0 ∧ j = 9 then 1 else 0
def h0m : Mm := fun p j => if p = 1 ∧ (0 ≤ j ∧ j < 6) then -1 else if p = 4 ∧ (0 ≤ j ∧ j < 4) then -1 else if p = 0 ∧ j = 13 then 1 else 0
theorem ints_cg {D : va_G} {H : Heap} {x N : Nat} {cI : ClassId} {f f' : Nat → Int32} (h : ∀ j, j < N → f j = f' j) : va_at D vwCl (x, .inl (cI, N, .inl f)) H = va_at D vwCl (x, .inl (cI, N, .inl f')) H := by
  have e : vp_cell cI (N, .inl f) = vp_cell cI (N, .inl f') := by
    show arrV cI N (fun j => .int (f j)) = arrV cI N (fun j => .int (f' j))
    exact arrV_cg (fun j hj => by rw [h j hj])
  show (H[x]? = some (vp_cell cI (N, .inl f))) = (H[x]? = some (vp_cell cI (N, .inl f')))
  rw [e]
theorem g0_0 {p j : Int} (h : ¬ ((6 ≤ p ∧ p < 16) ∧ j = 1)) (h2 : ¬ (p = 0 ∧ j = 9)) : g0 p j = 0 := by unfold g0; rw [if_neg h, if_neg h2]
set_option maxRecDepth 100000 in
set_option maxHeartbeats 8000000 in
theorem cowl_P {D : va_G} {H : Heap} {a : Int → Nat} {yc : Nat → ClassId} (hP : va_P D vwCl (cowl a yc) H) : va_P D vwCl (cw a yc g0) H := by
  refine wo_P.mpr (fun k h0 h1 => ?_)
  have zi : ∀ (x : Nat) (cI : ClassId) (N : Nat) (q : Int), (¬ (6 ≤ q ∧ q < 16)) → q ≠ 0 → va_at D vwCl (x, .inl (cI, N, .inl (fun _ => 0))) H → va_at D vwCl (x, .inl (cI, N, .inl (fun j : Nat => iI (g0 q (j : Int))))) H := fun x cI N q h2 h3 h4 => by
    rw [ints_cg (f' := fun _ => 0) (fun j _ => by rw [g0_0 (fun z => h2 z.1) (fun z => h3 z.1)]; rfl)]; exact h4
  rcases (show k = 0 ∨ k = 1 ∨ k = 2 ∨ k = 3 ∨ k = 4 ∨ k = 5 ∨ k = 6 ∨ k = 7 ∨ k = 8 ∨ k = 9 ∨ k = 10 ∨ k = 11 ∨ k = 12 ∨ k = 13 ∨ k = 14 ∨ k = 15 ∨ k = 16 ∨ k = 17 ∨ k = 18 ∨ k = 19 ∨ k = 20 ∨ k = 21 ∨ k = 22 ∨ k = 23 ∨ k = 24 ∨ k = 25 ∨ k = 26 ∨ k = 27 ∨ k = 28 ∨ k = 29 ∨ k = 30 ∨ k = 31 ∨ k = 32 ∨ k = 33 ∨ k = 34 ∨ k = 35 ∨ k = 36 ∨ k = 37 ∨ k = 38 ∨ k = 39 ∨ k = 40 ∨ k = 41 ∨ k = 42 ∨ k = 43 ∨ k = 44 ∨ k = 45 ∨ k = 46 ∨ k = 47 ∨ k = 48 ∨ k = 49 ∨ k = 50 ∨ k = 51 ∨ k = 52 ∨ k = 53 ∨ k = 54 ∨ k = 55 ∨ k = 56 ∨ k = 57 ∨ k = 58 ∨ k = 59 ∨ k = 60 ∨ k = 61 ∨ k = 62 ∨ k = 63 ∨ k = 64 ∨ k = 65 ∨ k = 66 ∨ k = 67 ∨ k = 68 ∨ k = 69 ∨ k = 70 ∨ k = 71 ∨ k = 72 ∨ k = 73 ∨ k = 74 ∨ k = 75 ∨ k = 76 ∨ k = 77 ∨ k = 78 ∨ k = 79 ∨ k = 80 ∨ k = 81 ∨ k = 82 ∨ k = 83 ∨ k = 84 ∨ k = 85 by omega) with rfl | rfl | rfl | rfl | rfl | rfl | rfl | rfl | rfl | rfl | rfl | rfl | rfl | rfl | rfl | rfl | rfl | rfl | rfl | rfl | rfl | rfl | rfl | rfl | rfl | rfl | rfl | rfl | rfl | rfl | rfl | rfl | rfl | rfl | rfl | rfl | rfl | rfl | rfl | rfl | rfl | rfl | rfl | rfl | rfl | rfl | rfl | rfl | rfl | rfl | rfl | rfl | rfl | rfl | rfl | rfl | rfl | rfl | rfl | rfl | rfl | rfl | rfl | rfl | rfl | rfl | rfl | rfl | rfl | rfl | rfl | rfl | rfl | rfl | rfl | rfl | rfl | rfl | rfl | rfl | rfl | rfl | rfl | rfl | rfl | rfl
  · exact hP 0 _ rfl
  · rw [ct_rowsA]
    refine Eq.mp (rfs_cg (f' := fun j : Nat => some (a (6 + (j : Int)))) (fun j hj => ?_)) (hP 1 _ rfl)
    rcases (show j = 0 ∨ j = 1 ∨ j = 2 ∨ j = 3 ∨ j = 4 ∨ j = 5 by omega) with rfl | rfl | rfl | rfl | rfl | rfl <;> rfl
  · rw [ct_textsA]
    refine Eq.mp (rfs_cg (f' := fun j : Nat => some (a (6 + (6 + (j : Int))))) (fun j hj => ?_)) (hP 2 _ rfl)
    rcases (show j = 0 ∨ j = 1 ∨ j = 2 ∨ j = 3 by omega) with rfl | rfl | rfl | rfl <;> rfl
  · rw [ct_keptA]
    refine Eq.mp (rfs_cg (f' := fun j : Nat => some (a (26 + (1 + (j : Int))))) (fun j hj => ?_)) (hP 15 _ rfl)
    rcases (show j = 0 ∨ j = 1 ∨ j = 2 by omega) with rfl | rfl | rfl <;> rfl
  · exact hP 16 _ rfl
  · exact zi _ _ _ 5 (by decide) (by decide) (hP 29 _ rfl)
  · exact hP 30 _ rfl
  · exact hP 32 _ rfl
  · exact hP 34 _ rfl
  · exact hP 36 _ rfl
  · exact hP 38 _ rfl
  · exact hP 40 _ rfl
  · exact hP 42 _ rfl
  · exact hP 44 _ rfl
  · exact hP 46 _ rfl
  · exact hP 48 _ rfl
  · exact zi _ _ _ 16 (by decide) (by decide) (hP 31 _ rfl)
  · exact zi _ _ _ 17 (by decide) (by decide) (hP 33 _ rfl)
  · exact zi _ _ _ 18 (by decide) (by decide) (hP 35 _ rfl)
  · exact zi _ _ _ 19 (by decide) (by decide) (hP 37 _ rfl)
  · exact zi _ _ _ 20 (by decide) (by decide) (hP 39 _ rfl)
  · exact zi _ _ _ 21 (by decide) (by decide) (hP 41 _ rfl)
  · exact zi _ _ _ 22 (by decide) (by decide) (hP 43 _ rfl)
  · exact zi _ _ _ 23 (by decide) (by decide) (hP 45 _ rfl)
  · exact zi _ _ _ 24 (by decide) (by decide) (hP 47 _ rfl)
  · exact zi _ _ _ 25 (by decide) (by decide) (hP 49 _ rfl)
  · exact hP 3 _ rfl
  · exact hP 50 _ rfl
  · exact hP 62 _ rfl
  · exact hP 74 _ rfl
  · exact hP 17 _ rfl
  · exact zi _ _ _ 31 (by decide) (by decide) (hP 4 _ rfl)
  · exact zi _ _ _ 32 (by decide) (by decide) (hP 51 _ rfl)
  · exact zi _ _ _ 33 (by decide) (by decide) (hP 63 _ rfl)
  · exact zi _ _ _ 34 (by decide) (by decide) (hP 75 _ rfl)
  · exact zi _ _ _ 35 (by decide) (by decide) (hP 18 _ rfl)
  · exact zi _ _ _ 36 (by decide) (by decide) (hP 5 _ rfl)
  · exact zi _ _ _ 37 (by decide) (by decide) (hP 52 _ rfl)
  · exact zi _ _ _ 38 (by decide) (by decide) (hP 64 _ rfl)
  · exact zi _ _ _ 39 (by decide) (by decide) (hP 76 _ rfl)
  · exact zi _ _ _ 40 (by decide) (by decide) (hP 19 _ rfl)
  · rw [show ((41 : Int)) = 41 + 0 from rfl, ct_beastsA (by decide) (by decide)]
    refine Eq.mp (rfs_cg (f' := fun j : Nat => some (a (56 + 6 * 0 + (j : Int)))) (fun j hj => ?_)) (hP 6 _ rfl)
    rcases (show j = 0 ∨ j = 1 ∨ j = 2 ∨ j = 3 ∨ j = 4 ∨ j = 5 by omega) with rfl | rfl | rfl | rfl | rfl | rfl <;> rfl
  · rw [show ((42 : Int)) = 41 + 1 from rfl, ct_beastsA (by decide) (by decide)]
    refine Eq.mp (rfs_cg (f' := fun j : Nat => some (a (56 + 6 * 1 + (j : Int)))) (fun j hj => ?_)) (hP 53 _ rfl)
    rcases (show j = 0 ∨ j = 1 ∨ j = 2 ∨ j = 3 ∨ j = 4 ∨ j = 5 by omega) with rfl | rfl | rfl | rfl | rfl | rfl <;> rfl
  · rw [show ((43 : Int)) = 41 + 2 from rfl, ct_beastsA (by decide) (by decide)]
    refine Eq.mp (rfs_cg (f' := fun j : Nat => some (a (56 + 6 * 2 + (j : Int)))) (fun j hj => ?_)) (hP 65 _ rfl)
    rcases (show j = 0 ∨ j = 1 ∨ j = 2 ∨ j = 3 ∨ j = 4 ∨ j = 5 by omega) with rfl | rfl | rfl | rfl | rfl | rfl <;> rfl
  · rw [show ((44 : Int)) = 41 + 3 from rfl, ct_beastsA (by decide) (by decide)]
    refine Eq.mp (rfs_cg (f' := fun j : Nat => some (a (56 + 6 * 3 + (j : Int)))) (fun j hj => ?_)) (hP 77 _ rfl)
    rcases (show j = 0 ∨ j = 1 ∨ j = 2 ∨ j = 3 ∨ j = 4 ∨ j = 5 by omega) with rfl | rfl | rfl | rfl | rfl | rfl <;> rfl
  · rw [show ((45 : Int)) = 41 + 4 from rfl, ct_beastsA (by decide) (by decide)]
    refine Eq.mp (rfs_cg (f' := fun j : Nat => some (a (56 + 6 * 4 + (j : Int)))) (fun j hj => ?_)) (hP 20 _ rfl)
    rcases (show j = 0 ∨ j = 1 ∨ j = 2 ∨ j = 3 ∨ j = 4 ∨ j = 5 by omega) with rfl | rfl | rfl | rfl | rfl | rfl <;> rfl
  · exact zi _ _ _ 46 (by decide) (by decide) (hP 7 _ rfl)
  · exact zi _ _ _ 47 (by decide) (by decide) (hP 54 _ rfl)
  · exact zi _ _ _ 48 (by decide) (by decide) (hP 66 _ rfl)
  · exact zi _ _ _ 49 (by decide) (by decide) (hP 78 _ rfl)
  · exact zi _ _ _ 50 (by decide) (by decide) (hP 21 _ rfl)
  · exact zi _ _ _ 51 (by decide) (by decide) (hP 8 _ rfl)
  · exact zi _ _ _ 52 (by decide) (by decide) (hP 55 _ rfl)
  · exact zi _ _ _ 53 (by decide) (by decide) (hP 67 _ rfl)
  · exact zi _ _ _ 54 (by decide) (by decide) (hP 79 _ rfl)
  · exact zi _ _ _ 55 (by decide) (by decide) (hP 22 _ rfl)
  · exact hP 9 _ rfl
  · exact hP 10 _ rfl
  · exact hP 11 _ rfl
  · exact hP 12 _ rfl
  · exact hP 13 _ rfl
  · exact hP 14 _ rfl
  · exact hP 56 _ rfl
  · exact hP 57 _ rfl
  · exact hP 58 _ rfl
  · exact hP 59 _ rfl
  · exact hP 60 _ rfl
  · exact hP 61 _ rfl
  · exact hP 68 _ rfl
  · exact hP 69 _ rfl
  · exact hP 70 _ rfl
  · exact hP 71 _ rfl
  · exact hP 72 _ rfl
  · exact hP 73 _ rfl
  · exact hP 80 _ rfl
  · exact hP 81 _ rfl
  · exact hP 82 _ rfl
  · exact hP 83 _ rfl
  · exact hP 84 _ rfl
  · exact hP 85 _ rfl
  · exact hP 23 _ rfl
  · exact hP 24 _ rfl
  · exact hP 25 _ rfl
  · exact hP 26 _ rfl
  · exact hP 27 _ rfl
  · exact hP 28 _ rfl
set_option maxRecDepth 100000 in
set_option maxHeartbeats 8000000 in
theorem modl_P {D : va_G} {H : Heap} {b : Int → Nat} {yc : Nat → ClassId} (hP : va_P D vwCl (modl b yc) H) : va_P D vwCl (mw b yc h0m) H := by
  refine wo_P.mpr (fun k h0 h1 => ?_)
  rcases (show k = 0 ∨ k = 1 ∨ k = 2 ∨ k = 3 ∨ k = 4 ∨ k = 5 ∨ k = 6 ∨ k = 7 ∨ k = 8 ∨ k = 9 ∨ k = 10 ∨ k = 11 by omega) with rfl | rfl | rfl | rfl | rfl | rfl | rfl | rfl | rfl | rfl | rfl | rfl
  · exact hP 0 _ rfl
  · refine Eq.mp (ints_cg (N := 6) (f' := fun j : Nat => iI (h0m 1 (j : Int))) (fun j hj => ?_)) (hP 1 _ rfl)
    rcases (show j = 0 ∨ j = 1 ∨ j = 2 ∨ j = 3 ∨ j = 4 ∨ j = 5 by omega) with rfl | rfl | rfl | rfl | rfl | rfl <;> rfl
  · refine Eq.mp (ints_cg (f' := fun j : Nat => iI (h0m 2 (j : Int))) (fun j hj => ?_)) (hP 2 _ rfl)
    have e : h0m 2 (j : Int) = 0 := by unfold h0m; rw [if_neg (fun z => absurd z.1 (by decide)), if_neg (fun z => absurd z.1 (by decide)), if_neg (fun z => absurd z.1 (by decide))]
    show 0 = iI (h0m 2 (j : Int)); rw [e]; rfl
  · refine Eq.mp (ints_cg (f' := fun j : Nat => iI (h0m 3 (j : Int))) (fun j hj => ?_)) (hP 3 _ rfl)
    have e : h0m 3 (j : Int) = 0 := by unfold h0m; rw [if_neg (fun z => absurd z.1 (by decide)), if_neg (fun z => absurd z.1 (by decide)), if_neg (fun z => absurd z.1 (by decide))]
    show 0 = iI (h0m 3 (j : Int)); rw [e]; rfl
  · refine Eq.mp (ints_cg (N := 4) (f' := fun j : Nat => iI (h0m 4 (j : Int))) (fun j hj => ?_)) (hP 4 _ rfl)
    rcases (show j = 0 ∨ j = 1 ∨ j = 2 ∨ j = 3 by omega) with rfl | rfl | rfl | rfl <;> rfl
  · refine Eq.mp (ints_cg (f' := fun j : Nat => iI (h0m 5 (j : Int))) (fun j hj => ?_)) (hP 5 _ rfl)
    have e : h0m 5 (j : Int) = 0 := by unfold h0m; rw [if_neg (fun z => absurd z.1 (by decide)), if_neg (fun z => absurd z.1 (by decide)), if_neg (fun z => absurd z.1 (by decide))]
    show 0 = iI (h0m 5 (j : Int)); rw [e]; rfl
  · refine Eq.mp (ints_cg (f' := fun j : Nat => iI (h0m 6 (j : Int))) (fun j hj => ?_)) (hP 6 _ rfl)
    have e : h0m 6 (j : Int) = 0 := by unfold h0m; rw [if_neg (fun z => absurd z.1 (by decide)), if_neg (fun z => absurd z.1 (by decide)), if_neg (fun z => absurd z.1 (by decide))]
    show 0 = iI (h0m 6 (j : Int)); rw [e]; rfl
  · refine Eq.mp (ints_cg (f' := fun j : Nat => iI (h0m 7 (j : Int))) (fun j hj => ?_)) (hP 7 _ rfl)
    have e : h0m 7 (j : Int) = 0 := by unfold h0m; rw [if_neg (fun z => absurd z.1 (by decide)), if_neg (fun z => absurd z.1 (by decide)), if_neg (fun z => absurd z.1 (by decide))]
    show 0 = iI (h0m 7 (j : Int)); rw [e]; rfl
  · refine Eq.mp (ints_cg (f' := fun j : Nat => iI (h0m 8 (j : Int))) (fun j hj => ?_)) (hP 8 _ rfl)
    have e : h0m 8 (j : Int) = 0 := by unfold h0m; rw [if_neg (fun z => absurd z.1 (by decide)), if_neg (fun z => absurd z.1 (by decide)), if_neg (fun z => absurd z.1 (by decide))]
    show 0 = iI (h0m 8 (j : Int)); rw [e]; rfl
  · refine Eq.mp (ints_cg (f' := fun j : Nat => iI (h0m 9 (j : Int))) (fun j hj => ?_)) (hP 9 _ rfl)
    have e : h0m 9 (j : Int) = 0 := by unfold h0m; rw [if_neg (fun z => absurd z.1 (by decide)), if_neg (fun z => absurd z.1 (by decide)), if_neg (fun z => absurd z.1 (by decide))]
    show 0 = iI (h0m 9 (j : Int)); rw [e]; rfl
  · refine Eq.mp (ints_cg (f' := fun j : Nat => iI (h0m 10 (j : Int))) (fun j hj => ?_)) (hP 10 _ rfl)
    have e : h0m 10 (j : Int) = 0 := by unfold h0m; rw [if_neg (fun z => absurd z.1 (by decide)), if_neg (fun z => absurd z.1 (by decide)), if_neg (fun z => absurd z.1 (by decide))]
    show 0 = iI (h0m 10 (j : Int)); rw [e]; rfl
  · refine Eq.mp (ints_cg (f' := fun j : Nat => iI (h0m 11 (j : Int))) (fun j hj => ?_)) (hP 11 _ rfl)
    have e : h0m 11 (j : Int) = 0 := by unfold h0m; rw [if_neg (fun z => absurd z.1 (by decide)), if_neg (fun z => absurd z.1 (by decide)), if_neg (fun z => absurd z.1 (by decide))]
    show 0 = iI (h0m 11 (j : Int)); rw [e]; rfl
theorem h0m_z {p j : Int} (h1 : p ≠ 1) (h4 : p ≠ 4) (h0 : p ≠ 0) : h0m p j = 0 := by unfold h0m; rw [if_neg (fun z => h1 z.1), if_neg (fun z => h4 z.1), if_neg (fun z => h0 z.1)]
theorem Rel_0 : Rel g0 h0m := by
  have e6 : h0m 6 = fun _ => 0 := by funext j; exact h0m_z (by decide) (by decide) (by decide)
  have e9 : ∀ k, h0m 9 k = 0 := fun k => h0m_z (by decide) (by decide) (by decide)
  refine ⟨⟨fun j => by rw [h0m_z (by decide) (by decide) (by decide)]; decide, fun r a b => ⟨?_, ?_, fun j => ?_, fun j x y => ?_⟩⟩, ⟨fun j => by rw [h0m_z (by decide) (by decide) (by decide)]; decide, fun r a b => ⟨?_, ?_, fun j => ?_, fun j x y => ?_⟩⟩, ⟨?_, ?_, ?_⟩, fun k a b => ⟨Or.inl (e9 k), ?_, ?_, fun z => ?_⟩, ⟨fun j a b => ?_, ?_, ?_, ?_, ?_⟩⟩
  · unfold g0 h0m; rw [if_pos ⟨by omega, rfl⟩, if_pos ⟨rfl, a, b⟩]
  · unfold h0m; rw [if_pos ⟨rfl, a, b⟩]; decide
  · rw [g0_0 (by omega) (by omega)]; decide
  · unfold h0m at y; rw [if_pos ⟨rfl, a, b⟩] at y; omega
  · unfold g0 h0m; rw [if_pos ⟨by omega, rfl⟩, if_neg (fun z => absurd z.1 (by decide)), if_pos ⟨rfl, a, b⟩]
  · unfold h0m; rw [if_neg (fun z => absurd z.1 (by decide)), if_pos ⟨rfl, a, b⟩]; decide
  · rw [g0_0 (by omega) (by omega)]; decide
  · unfold h0m at y; rw [if_neg (fun z => absurd z.1 (by decide)), if_pos ⟨rfl, a, b⟩] at y; omega
  · rw [e6]; exact Z_FR (fun j x y => g0_0 (by omega) (by omega))
  · rw [e6]; exact Z_FI
  · rw [e6]; exact fun _ => rfl
  · rw [kG_0 (e9 k)]; exact Z_FR (fun j x y => g0_0 (by omega) (by omega))
  · rw [kG_0 (e9 k)]; exact Z_FI
  · have := e9 k; omega
  · rw [g0_0 (by omega) (by omega), h0m_z (by decide) (by decide) (by decide)]
  · decide
  · decide
  · decide
  · decide
