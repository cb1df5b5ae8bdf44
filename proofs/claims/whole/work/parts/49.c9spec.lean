/-! The class's digest, in the model's words. -/
def cnC (g : Mm) (F : Int → Int) (G : Int → Int → Int) (kk : Int) : Int := if kk = 0 then F 0 else if kk = 1 then F 1 else if kk = 2 then F 2 else if kk = 3 then F 3 else if kk = 4 then F 4 else if kk = 5 then F 5 + 10000 else if kk = 6 then sI (fun i => if F (20 + 3 * i) = 3 ∨ F (20 + 3 * i) = 5 then 1 else 0) (F 0) else if kk = 7 then sI (fun t => if g (6 + t) 1 < 0 then 0 else 1) 6 else if kk = 8 then sI (fun t => if g (6 + (6 + t)) 1 < 0 then 0 else 1) 4 else if kk = 9 then sI (fun k => if G k 0 = 0 then 0 else 1) 3 else -1
theorem cnC_e {g : Mm} {F : Int → Int} {G : Int → Int → Int} {kk : Int} : cnC g F G kk = cn F (fun t => g (6 + t) 1) (fun t => g (6 + (6 + t)) 1) (fun k => if G k 0 = 0 then 0 else 1) kk := by
  unfold cnC cn bl thr kpt
  have e : sI (fun k => if G k 0 = 0 then 0 else 1) 3 = sI (fun r => if (if G r 0 = 0 then (0 : Int) else 1) = 0 then 0 else 1) 3 := sI_cg (fun e _ _ => by by_cases h : G e 0 = 0 <;> simp [h]) (by decide)
  rw [e]
theorem cnC_bd {g : Mm} {F : Int → Int} {G : Int → Int → Int} (h : FI F) (kk : Int) : -1 ≤ cnC g F G kk ∧ cnC g F G kk ≤ 20000 := by rw [cnC_e]; exact cn_bd h kk
theorem tl_bh {g : Mm} {F : Int → Int} {x y : Int} (HF : FR g 0 F) (h0 : 0 ≤ x) (h1 : x < F 0) (hy : 0 ≤ y) (hy4 : y ≤ 4) : g (56 + 6 * 0 + x) y = bh F ((5 * x + y) / 5) ((5 * x + y) % 5) := by
  rw [show (5 * x + y) / 5 = x by omega, show (5 * x + y) % 5 = y by omega]
  have hb := HF.bs h0 h1
  unfold bh
  rcases (show y = 0 ∨ y = 1 ∨ y = 2 ∨ y = 3 ∨ y = 4 by omega) with rfl | rfl | rfl | rfl | rfl
  · rw [if_pos (by decide), Int.add_zero]; exact hb.1
  · rw [if_pos (by decide)]; exact hb.2.1
  · rw [if_pos (by decide)]; exact hb.2.2.1
  · rw [if_neg (by decide)]; exact hb.2.2.2.1
  · rw [if_neg (by decide)]; exact hb.2.2.2.2
def dgC (g : Mm) (F : Int → Int) (G : Int → Int → Int) : Int :=
  rf (rf (hf (hf (hf (hf 17 (cnC g F G) 10) (fun k => F (6 + k)) (F 1)) (fun k => bh F (k / 5) (k % 5)) (5 * F 0)) (fun k => if G k 0 = 0 then -1 else G k 4) 3) (fun r => g (6 + r) 1) (fun r j => g (16 + r) j) 6) (fun t => g (6 + (6 + t)) 1) (fun t j => g (16 + (6 + t)) j) 4
