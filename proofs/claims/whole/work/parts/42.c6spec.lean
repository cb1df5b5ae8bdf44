def qcP (F : Int → Int) (x y k : Int) : Bool := decide (¬ cb F k x (sI (ld F) (k + 1)) = cb F k y (sI (ld F) (k + 1)))
theorem cb_r {F : Int → Int} (h : FI F) (ht : 0 < F 1) (d q v : Int) : cb F d q v = -9 ∨ cb F d q v = 0 ∨ cb F d q v = 1 := by
  have a := fOn01 h ht d
  have b := fOn01 h ht (if 0 < d - 1 then d - 1 else 0)
  unfold cb
  split
  · exact Or.inr a
  · split
    · exact Or.inr b
    · split
      · split <;> omega
      · split <;> omega
