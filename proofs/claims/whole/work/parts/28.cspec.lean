/-! The class's reader: its sign at a place, its draft against the flat farms. -/
def sg (B : Int → Int) (L p : Int) : Int := if p < L then B p else 256
theorem sg_bd {B : Int → Int} (h : ∀ j, -128 ≤ B j ∧ B j ≤ 127) (L p : Int) : -128 ≤ sg B L p ∧ sg B L p ≤ 256 := by
  have := h p; unfold sg; split <;> omega
def fl (x : Int) : Int := if x = 97 then 0 else if x = 98 then 1 else -9
