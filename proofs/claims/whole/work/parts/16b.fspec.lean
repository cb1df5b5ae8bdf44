/-! The farms' row F: its steps. -/
def fu (F : Int → Int) (j v : Int) : Int → Int := fun i => if i = j then v else F i
def ru (g : Mm) (q : Int) (F : Int → Int) : Mm := fun p j => if p = q then F j else g p j
theorem mu_ru (g : Mm) (p j v : Int) : mu g p j v = ru g p (fu (g p) j v) := by
  funext p' j'; unfold mu ru fu
  by_cases h : p' = p
  · subst h; simp
  · simp [h]
theorem ru_at (g : Mm) (q : Int) (F : Int → Int) : ru g q F q = F := by funext j; unfold ru; rw [if_pos rfl]
theorem ru_ne {g : Mm} {q p : Int} {F : Int → Int} (h : p ≠ q) : ru g q F p = g p := by funext j; unfold ru; rw [if_neg h]
theorem ru_ru (g : Mm) (q : Int) (F G : Int → Int) : ru (ru g q F) q G = ru g q G := by
  funext p j; unfold ru; by_cases h : p = q <;> simp [h]
theorem ru_self (g : Mm) (q : Int) : ru g q (g q) = g := by
  funext p j; unfold ru; by_cases h : p = q <;> simp [h]
theorem fu_at (F : Int → Int) (j v : Int) : fu F j v j = v := by unfold fu; rw [if_pos rfl]
theorem fu_ne {F : Int → Int} {j v i : Int} (h : i ≠ j) : fu F j v i = F i := by unfold fu; rw [if_neg h]
def tuF (F : Int → Int) (w y : Int) : Int → Int := if w = 0 then fu F 3 (F 3 + y) else if w < 100 then fu F (20 + 3 * (w - 1) + 2) (1 - F (20 + 3 * (w - 1) + 2)) else fu F 5 (F 5 + (if w < 200 then y * (100 - w) else y * (w - 200)))
def doF (F : Int → Int) (w : Int) : Int → Int := tuF (fu (fu F (38 + F 4) w) 4 (F 4 + 1)) w 1
def uF (F : Int → Int) (dc : Int) : Nat → Int → Int
  | 0 => F
  | c + 1 => fu (tuF (uF F dc c) (uF F dc c (38 + (dc - 1 - c))) (-1)) (38 + (dc - 1 - c)) 0
/-- a stretch of 98 numbers copied -/
def c98 (g : Mm) (p : Int) (s : Int → Int) (q b : Int) : Mm := cpf g q b 98 s
