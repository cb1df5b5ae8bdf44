/-! Whose the calf is, by a reading; v is the lead. -/
def cb (F : Int → Int) (d q v : Int) : Int := if q = 0 then fOn F d else if q = 1 then fOn F (if 0 < d - 1 then d - 1 else 0) else if q = 2 then (if v < 0 then 1 else 0) else if sI (fun j => if F (6 + j) = fOn F d then 0 else 1) (F 1) = 0 then -9 else 1 - fOn F d
