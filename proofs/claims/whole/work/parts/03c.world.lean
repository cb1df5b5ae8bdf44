/-! The worlds: the class's 86 cells, the model's 12. -/
def rlen (r : Int) : Nat := if r < 6 then 40 else 60
def cta (a : Int → Nat) (yc : Nat → ClassId) (g : Mm) (q : Int) : va_E :=
  if q < 6 then
    if q = 0 then .inr (4, [.ref (a 1), .ref (a 2), .ref (a 26), .ref (a 3), .ref (a 4), .ref (a 5), .int (iI (g q 6)), .int (iI (g q 7)), .long (lI (g q 8)), .long (lI (g q 9))])
    else if q = 1 then .inl (yc 4, 6, .inr (.inr (.inr (.inr (fun j : Nat => some (a (6 + (j : Int))))))))
    else if q = 2 then .inl (yc 4, 4, .inr (.inr (.inr (.inr (fun j : Nat => some (a (6 + (6 + (j : Int)))))))))
    else if q = 3 then .inl (yc 3, 3, .inr (.inr (.inr (.inr (fun j : Nat => some (a (26 + (1 + (j : Int)))))))))
    else if q = 4 then .inr (2, [.ref (a 30), .int (iI (g q 1))])
    else .inl (yc 0, 6, .inl (fun j : Nat => iI (g q (j : Int))))
  else if q < 16 then .inr (3, [.ref (a (16 + (q - 6))), .int (iI (g q 1))])
  else if q < 26 then .inl (yc 0, rlen (q - 16), .inl (fun j : Nat => iI (g q (j : Int))))
  else if q < 31 then .inr (1, [.ref (a (31 + (q - 26))), .ref (a (36 + (q - 26))), .ref (a (41 + (q - 26))), .ref (a (46 + (q - 26))), .ref (a (51 + (q - 26))), .int (iI (g q 5)), .int (iI (g q 6)), .int (iI (g q 7)), .int (iI (g q 8)), .int (iI (g q 9)), .int (iI (g q 10))])
  else if q < 36 then .inl (yc 0, 8, .inl (fun j : Nat => iI (g q (j : Int))))
  else if q < 41 then .inl (yc 0, 6, .inl (fun j : Nat => iI (g q (j : Int))))
  else if q < 46 then .inl (yc 2, 6, .inr (.inr (.inr (.inr (fun j : Nat => some (a (56 + 6 * (q - 41) + (j : Int))))))))
  else if q < 56 then .inl (yc 0, 60, .inl (fun j : Nat => iI (g q (j : Int))))
  else .inr (0, [.int (iI (g q 0)), .int (iI (g q 1)), .int (iI (g q 2)), .int (iI (g q 3)), .int (iI (g q 4))])
theorem cta_L (a : Int → Nat) (yc : Nat → ClassId) : Lc (cta a yc) := by
  intro g g' q h
  unfold cta
  rw [h]
abbrev cw (a : Int → Nat) (yc : Nat → ClassId) : Mm → va_W := wo 86 a (cta a yc)
theorem ct_cow {a : Int → Nat} {yc : Nat → ClassId} {g : Mm}  : cta a yc g (0) = .inr (4, [.ref (a (1)), .ref (a (2)), .ref (a (26)), .ref (a (3)), .ref (a (4)), .ref (a (5)), .int (iI (g (0) 6)), .int (iI (g (0) 7)), .long (lI (g (0) 8)), .long (lI (g (0) 9))]) := by unfold cta; rfl
theorem cs_cow_6 {a : Int → Nat} {yc : Nat → ClassId} {g : Mm} {z : Int}  : (.inr (4, ([.ref (a (1)), .ref (a (2)), .ref (a (26)), .ref (a (3)), .ref (a (4)), .ref (a (5)), .int (iI (g (0) 6)), .int (iI (g (0) 7)), .long (lI (g (0) 8)), .long (lI (g (0) 9))] : List Value).set 6 (.int (iI z))) : va_E) = cta a yc (mu g (0) ((6 : Nat) : Int) z) (0) := by
  rw [ct_cow]
  simp [List.set, mu]
theorem cs_cow_7 {a : Int → Nat} {yc : Nat → ClassId} {g : Mm} {z : Int}  : (.inr (4, ([.ref (a (1)), .ref (a (2)), .ref (a (26)), .ref (a (3)), .ref (a (4)), .ref (a (5)), .int (iI (g (0) 6)), .int (iI (g (0) 7)), .long (lI (g (0) 8)), .long (lI (g (0) 9))] : List Value).set 7 (.int (iI z))) : va_E) = cta a yc (mu g (0) ((7 : Nat) : Int) z) (0) := by
  rw [ct_cow]
  simp [List.set, mu]
theorem cs_cow_8 {a : Int → Nat} {yc : Nat → ClassId} {g : Mm} {z : Int}  : (.inr (4, ([.ref (a (1)), .ref (a (2)), .ref (a (26)), .ref (a (3)), .ref (a (4)), .ref (a (5)), .int (iI (g (0) 6)), .int (iI (g (0) 7)), .long (lI (g (0) 8)), .long (lI (g (0) 9))] : List Value).set 8 (.long (lI z))) : va_E) = cta a yc (mu g (0) ((8 : Nat) : Int) z) (0) := by
  rw [ct_cow]
  simp [List.set, mu]
theorem cs_cow_9 {a : Int → Nat} {yc : Nat → ClassId} {g : Mm} {z : Int}  : (.inr (4, ([.ref (a (1)), .ref (a (2)), .ref (a (26)), .ref (a (3)), .ref (a (4)), .ref (a (5)), .int (iI (g (0) 6)), .int (iI (g (0) 7)), .long (lI (g (0) 8)), .long (lI (g (0) 9))] : List Value).set 9 (.long (lI z))) : va_E) = cta a yc (mu g (0) ((9 : Nat) : Int) z) (0) := by
  rw [ct_cow]
  simp [List.set, mu]
theorem ct_reader {a : Int → Nat} {yc : Nat → ClassId} {g : Mm}  : cta a yc g (4) = .inr (2, [.ref (a (30)), .int (iI (g (4) 1))]) := by unfold cta; rfl
theorem cs_reader_1 {a : Int → Nat} {yc : Nat → ClassId} {g : Mm} {z : Int}  : (.inr (2, ([.ref (a (30)), .int (iI (g (4) 1))] : List Value).set 1 (.int (iI z))) : va_E) = cta a yc (mu g (4) ((1 : Nat) : Int) z) (4) := by
  rw [ct_reader]
  simp [List.set, mu]
theorem ct_row {a : Int → Nat} {yc : Nat → ClassId} {g : Mm} {r : Int} (h0 : 0 ≤ r) (h1 : r < 10) : cta a yc g (6 + r) = .inr (3, [.ref (a (16 + r)), .int (iI (g (6 + r) 1))]) := by
  unfold cta
  rw [if_neg (show ¬ 6 + r < 6 by omega), if_pos (show 6 + r < 16 by omega)]
  rw [show 6 + r - 6 = r by omega]
theorem cs_row_1 {a : Int → Nat} {yc : Nat → ClassId} {g : Mm} {r : Int} {z : Int} (h0 : 0 ≤ r) (h1 : r < 10) : (.inr (3, ([.ref (a (16 + r)), .int (iI (g (6 + r) 1))] : List Value).set 1 (.int (iI z))) : va_E) = cta a yc (mu g (6 + r) ((1 : Nat) : Int) z) (6 + r) := by
  rw [ct_row h0 h1]
  simp [List.set, mu]
theorem ct_farm {a : Int → Nat} {yc : Nat → ClassId} {g : Mm} {f : Int} (h0 : 0 ≤ f) (h1 : f < 5) : cta a yc g (26 + f) = .inr (1, [.ref (a (31 + f)), .ref (a (36 + f)), .ref (a (41 + f)), .ref (a (46 + f)), .ref (a (51 + f)), .int (iI (g (26 + f) 5)), .int (iI (g (26 + f) 6)), .int (iI (g (26 + f) 7)), .int (iI (g (26 + f) 8)), .int (iI (g (26 + f) 9)), .int (iI (g (26 + f) 10))]) := by
  unfold cta
  rw [if_neg (show ¬ 26 + f < 6 by omega), if_neg (show ¬ 26 + f < 16 by omega), if_neg (show ¬ 26 + f < 26 by omega), if_pos (show 26 + f < 31 by omega)]
  rw [show 26 + f - 26 = f by omega]
theorem cs_farm_5 {a : Int → Nat} {yc : Nat → ClassId} {g : Mm} {f : Int} {z : Int} (h0 : 0 ≤ f) (h1 : f < 5) : (.inr (1, ([.ref (a (31 + f)), .ref (a (36 + f)), .ref (a (41 + f)), .ref (a (46 + f)), .ref (a (51 + f)), .int (iI (g (26 + f) 5)), .int (iI (g (26 + f) 6)), .int (iI (g (26 + f) 7)), .int (iI (g (26 + f) 8)), .int (iI (g (26 + f) 9)), .int (iI (g (26 + f) 10))] : List Value).set 5 (.int (iI z))) : va_E) = cta a yc (mu g (26 + f) ((5 : Nat) : Int) z) (26 + f) := by
  rw [ct_farm h0 h1]
  simp [List.set, mu]
theorem cs_farm_6 {a : Int → Nat} {yc : Nat → ClassId} {g : Mm} {f : Int} {z : Int} (h0 : 0 ≤ f) (h1 : f < 5) : (.inr (1, ([.ref (a (31 + f)), .ref (a (36 + f)), .ref (a (41 + f)), .ref (a (46 + f)), .ref (a (51 + f)), .int (iI (g (26 + f) 5)), .int (iI (g (26 + f) 6)), .int (iI (g (26 + f) 7)), .int (iI (g (26 + f) 8)), .int (iI (g (26 + f) 9)), .int (iI (g (26 + f) 10))] : List Value).set 6 (.int (iI z))) : va_E) = cta a yc (mu g (26 + f) ((6 : Nat) : Int) z) (26 + f) := by
  rw [ct_farm h0 h1]
  simp [List.set, mu]
theorem cs_farm_7 {a : Int → Nat} {yc : Nat → ClassId} {g : Mm} {f : Int} {z : Int} (h0 : 0 ≤ f) (h1 : f < 5) : (.inr (1, ([.ref (a (31 + f)), .ref (a (36 + f)), .ref (a (41 + f)), .ref (a (46 + f)), .ref (a (51 + f)), .int (iI (g (26 + f) 5)), .int (iI (g (26 + f) 6)), .int (iI (g (26 + f) 7)), .int (iI (g (26 + f) 8)), .int (iI (g (26 + f) 9)), .int (iI (g (26 + f) 10))] : List Value).set 7 (.int (iI z))) : va_E) = cta a yc (mu g (26 + f) ((7 : Nat) : Int) z) (26 + f) := by
  rw [ct_farm h0 h1]
  simp [List.set, mu]
theorem cs_farm_8 {a : Int → Nat} {yc : Nat → ClassId} {g : Mm} {f : Int} {z : Int} (h0 : 0 ≤ f) (h1 : f < 5) : (.inr (1, ([.ref (a (31 + f)), .ref (a (36 + f)), .ref (a (41 + f)), .ref (a (46 + f)), .ref (a (51 + f)), .int (iI (g (26 + f) 5)), .int (iI (g (26 + f) 6)), .int (iI (g (26 + f) 7)), .int (iI (g (26 + f) 8)), .int (iI (g (26 + f) 9)), .int (iI (g (26 + f) 10))] : List Value).set 8 (.int (iI z))) : va_E) = cta a yc (mu g (26 + f) ((8 : Nat) : Int) z) (26 + f) := by
  rw [ct_farm h0 h1]
  simp [List.set, mu]
theorem cs_farm_9 {a : Int → Nat} {yc : Nat → ClassId} {g : Mm} {f : Int} {z : Int} (h0 : 0 ≤ f) (h1 : f < 5) : (.inr (1, ([.ref (a (31 + f)), .ref (a (36 + f)), .ref (a (41 + f)), .ref (a (46 + f)), .ref (a (51 + f)), .int (iI (g (26 + f) 5)), .int (iI (g (26 + f) 6)), .int (iI (g (26 + f) 7)), .int (iI (g (26 + f) 8)), .int (iI (g (26 + f) 9)), .int (iI (g (26 + f) 10))] : List Value).set 9 (.int (iI z))) : va_E) = cta a yc (mu g (26 + f) ((9 : Nat) : Int) z) (26 + f) := by
  rw [ct_farm h0 h1]
  simp [List.set, mu]
theorem cs_farm_10 {a : Int → Nat} {yc : Nat → ClassId} {g : Mm} {f : Int} {z : Int} (h0 : 0 ≤ f) (h1 : f < 5) : (.inr (1, ([.ref (a (31 + f)), .ref (a (36 + f)), .ref (a (41 + f)), .ref (a (46 + f)), .ref (a (51 + f)), .int (iI (g (26 + f) 5)), .int (iI (g (26 + f) 6)), .int (iI (g (26 + f) 7)), .int (iI (g (26 + f) 8)), .int (iI (g (26 + f) 9)), .int (iI (g (26 + f) 10))] : List Value).set 10 (.int (iI z))) : va_E) = cta a yc (mu g (26 + f) ((10 : Nat) : Int) z) (26 + f) := by
  rw [ct_farm h0 h1]
  simp [List.set, mu]
theorem ct_beast {a : Int → Nat} {yc : Nat → ClassId} {g : Mm} {f i : Int} (h0 : 0 ≤ f) (h1 : f < 5) (h2 : 0 ≤ i) (h3 : i < 6) : cta a yc g (56 + 6 * f + i) = .inr (0, [.int (iI (g (56 + 6 * f + i) 0)), .int (iI (g (56 + 6 * f + i) 1)), .int (iI (g (56 + 6 * f + i) 2)), .int (iI (g (56 + 6 * f + i) 3)), .int (iI (g (56 + 6 * f + i) 4))]) := by
  unfold cta
  rw [if_neg (show ¬ 56 + 6 * f + i < 6 by omega), if_neg (show ¬ 56 + 6 * f + i < 16 by omega), if_neg (show ¬ 56 + 6 * f + i < 26 by omega), if_neg (show ¬ 56 + 6 * f + i < 31 by omega), if_neg (show ¬ 56 + 6 * f + i < 36 by omega), if_neg (show ¬ 56 + 6 * f + i < 41 by omega), if_neg (show ¬ 56 + 6 * f + i < 46 by omega), if_neg (show ¬ 56 + 6 * f + i < 56 by omega)]
theorem cs_beast_0 {a : Int → Nat} {yc : Nat → ClassId} {g : Mm} {f i : Int} {z : Int} (h0 : 0 ≤ f) (h1 : f < 5) (h2 : 0 ≤ i) (h3 : i < 6) : (.inr (0, ([.int (iI (g (56 + 6 * f + i) 0)), .int (iI (g (56 + 6 * f + i) 1)), .int (iI (g (56 + 6 * f + i) 2)), .int (iI (g (56 + 6 * f + i) 3)), .int (iI (g (56 + 6 * f + i) 4))] : List Value).set 0 (.int (iI z))) : va_E) = cta a yc (mu g (56 + 6 * f + i) ((0 : Nat) : Int) z) (56 + 6 * f + i) := by
  rw [ct_beast h0 h1 h2 h3]
  simp [List.set, mu]
theorem cs_beast_1 {a : Int → Nat} {yc : Nat → ClassId} {g : Mm} {f i : Int} {z : Int} (h0 : 0 ≤ f) (h1 : f < 5) (h2 : 0 ≤ i) (h3 : i < 6) : (.inr (0, ([.int (iI (g (56 + 6 * f + i) 0)), .int (iI (g (56 + 6 * f + i) 1)), .int (iI (g (56 + 6 * f + i) 2)), .int (iI (g (56 + 6 * f + i) 3)), .int (iI (g (56 + 6 * f + i) 4))] : List Value).set 1 (.int (iI z))) : va_E) = cta a yc (mu g (56 + 6 * f + i) ((1 : Nat) : Int) z) (56 + 6 * f + i) := by
  rw [ct_beast h0 h1 h2 h3]
  simp [List.set, mu]
theorem cs_beast_2 {a : Int → Nat} {yc : Nat → ClassId} {g : Mm} {f i : Int} {z : Int} (h0 : 0 ≤ f) (h1 : f < 5) (h2 : 0 ≤ i) (h3 : i < 6) : (.inr (0, ([.int (iI (g (56 + 6 * f + i) 0)), .int (iI (g (56 + 6 * f + i) 1)), .int (iI (g (56 + 6 * f + i) 2)), .int (iI (g (56 + 6 * f + i) 3)), .int (iI (g (56 + 6 * f + i) 4))] : List Value).set 2 (.int (iI z))) : va_E) = cta a yc (mu g (56 + 6 * f + i) ((2 : Nat) : Int) z) (56 + 6 * f + i) := by
  rw [ct_beast h0 h1 h2 h3]
  simp [List.set, mu]
theorem cs_beast_3 {a : Int → Nat} {yc : Nat → ClassId} {g : Mm} {f i : Int} {z : Int} (h0 : 0 ≤ f) (h1 : f < 5) (h2 : 0 ≤ i) (h3 : i < 6) : (.inr (0, ([.int (iI (g (56 + 6 * f + i) 0)), .int (iI (g (56 + 6 * f + i) 1)), .int (iI (g (56 + 6 * f + i) 2)), .int (iI (g (56 + 6 * f + i) 3)), .int (iI (g (56 + 6 * f + i) 4))] : List Value).set 3 (.int (iI z))) : va_E) = cta a yc (mu g (56 + 6 * f + i) ((3 : Nat) : Int) z) (56 + 6 * f + i) := by
  rw [ct_beast h0 h1 h2 h3]
  simp [List.set, mu]
theorem cs_beast_4 {a : Int → Nat} {yc : Nat → ClassId} {g : Mm} {f i : Int} {z : Int} (h0 : 0 ≤ f) (h1 : f < 5) (h2 : 0 ≤ i) (h3 : i < 6) : (.inr (0, ([.int (iI (g (56 + 6 * f + i) 0)), .int (iI (g (56 + 6 * f + i) 1)), .int (iI (g (56 + 6 * f + i) 2)), .int (iI (g (56 + 6 * f + i) 3)), .int (iI (g (56 + 6 * f + i) 4))] : List Value).set 4 (.int (iI z))) : va_E) = cta a yc (mu g (56 + 6 * f + i) ((4 : Nat) : Int) z) (56 + 6 * f + i) := by
  rw [ct_beast h0 h1 h2 h3]
  simp [List.set, mu]
theorem ct_rowsA {a : Int → Nat} {yc : Nat → ClassId} {g : Mm}  : cta a yc g (1) = .inl (yc 4, 6, .inr (.inr (.inr (.inr (fun j : Nat => some (a (6 + (j : Int)))))))) := by unfold cta; rfl
theorem ct_textsA {a : Int → Nat} {yc : Nat → ClassId} {g : Mm}  : cta a yc g (2) = .inl (yc 4, 4, .inr (.inr (.inr (.inr (fun j : Nat => some (a (6 + (6 + (j : Int))))))))) := by unfold cta; rfl
theorem ct_keptA {a : Int → Nat} {yc : Nat → ClassId} {g : Mm}  : cta a yc g (3) = .inl (yc 3, 3, .inr (.inr (.inr (.inr (fun j : Nat => some (a (26 + (1 + (j : Int))))))))) := by unfold cta; rfl
theorem ct_fc {a : Int → Nat} {yc : Nat → ClassId} {g : Mm}  : cta a yc g (5) = .inl (yc 0, 6, .inl (fun j : Nat => iI (g (5) (j : Int)))) := by unfold cta; rfl
theorem ct_places {a : Int → Nat} {yc : Nat → ClassId} {g : Mm} {r : Int} (h0 : 0 ≤ r) (h1 : r < 10) : cta a yc g (16 + r) = .inl (yc 0, rlen r, .inl (fun j : Nat => iI (g (16 + r) (j : Int)))) := by
  unfold cta
  rw [if_neg (show ¬ 16 + r < 6 by omega), if_neg (show ¬ 16 + r < 16 by omega), if_pos (show 16 + r < 26 by omega)]
  rw [show 16 + r - 16 = r by omega]
theorem ct_turns {a : Int → Nat} {yc : Nat → ClassId} {g : Mm} {f : Int} (h0 : 0 ≤ f) (h1 : f < 5) : cta a yc g (31 + f) = .inl (yc 0, 8, .inl (fun j : Nat => iI (g (31 + f) (j : Int)))) := by
  unfold cta
  rw [if_neg (show ¬ 31 + f < 6 by omega), if_neg (show ¬ 31 + f < 16 by omega), if_neg (show ¬ 31 + f < 26 by omega), if_neg (show ¬ 31 + f < 31 by omega), if_pos (show 31 + f < 36 by omega)]
theorem ct_milks {a : Int → Nat} {yc : Nat → ClassId} {g : Mm} {f : Int} (h0 : 0 ≤ f) (h1 : f < 5) : cta a yc g (36 + f) = .inl (yc 0, 6, .inl (fun j : Nat => iI (g (36 + f) (j : Int)))) := by
  unfold cta
  rw [if_neg (show ¬ 36 + f < 6 by omega), if_neg (show ¬ 36 + f < 16 by omega), if_neg (show ¬ 36 + f < 26 by omega), if_neg (show ¬ 36 + f < 31 by omega), if_neg (show ¬ 36 + f < 36 by omega), if_pos (show 36 + f < 41 by omega)]
theorem ct_beastsA {a : Int → Nat} {yc : Nat → ClassId} {g : Mm} {f : Int} (h0 : 0 ≤ f) (h1 : f < 5) : cta a yc g (41 + f) = .inl (yc 2, 6, .inr (.inr (.inr (.inr (fun j : Nat => some (a (56 + 6 * f + (j : Int)))))))) := by
  unfold cta
  rw [if_neg (show ¬ 41 + f < 6 by omega), if_neg (show ¬ 41 + f < 16 by omega), if_neg (show ¬ 41 + f < 26 by omega), if_neg (show ¬ 41 + f < 31 by omega), if_neg (show ¬ 41 + f < 36 by omega), if_neg (show ¬ 41 + f < 41 by omega), if_pos (show 41 + f < 46 by omega)]
  rw [show 41 + f - 41 = f by omega]
theorem ct_dk {a : Int → Nat} {yc : Nat → ClassId} {g : Mm} {f : Int} (h0 : 0 ≤ f) (h1 : f < 5) : cta a yc g (46 + f) = .inl (yc 0, 60, .inl (fun j : Nat => iI (g (46 + f) (j : Int)))) := by
  unfold cta
  rw [if_neg (show ¬ 46 + f < 6 by omega), if_neg (show ¬ 46 + f < 16 by omega), if_neg (show ¬ 46 + f < 26 by omega), if_neg (show ¬ 46 + f < 31 by omega), if_neg (show ¬ 46 + f < 36 by omega), if_neg (show ¬ 46 + f < 41 by omega), if_neg (show ¬ 46 + f < 46 by omega), if_pos (show 46 + f < 56 by omega)]
theorem ct_dt {a : Int → Nat} {yc : Nat → ClassId} {g : Mm} {f : Int} (h0 : 0 ≤ f) (h1 : f < 5) : cta a yc g (51 + f) = .inl (yc 0, 60, .inl (fun j : Nat => iI (g (51 + f) (j : Int)))) := by
  unfold cta
  rw [if_neg (show ¬ 51 + f < 6 by omega), if_neg (show ¬ 51 + f < 16 by omega), if_neg (show ¬ 51 + f < 26 by omega), if_neg (show ¬ 51 + f < 31 by omega), if_neg (show ¬ 51 + f < 36 by omega), if_neg (show ¬ 51 + f < 41 by omega), if_neg (show ¬ 51 + f < 46 by omega), if_pos (show 51 + f < 56 by omega)]
def ctm (a : Int → Nat) (yc : Nat → ClassId) (g : Mm) (q : Int) : va_E :=
  if q = 0 then .inr (5, [.ref (a 1), .ref (a 2), .ref (a 3), .ref (a 4), .ref (a 5), .ref (a 6), .ref (a 7), .ref (a 8), .ref (a 9), .ref (a 10), .int (iI (g q 10)), .int (iI (g q 11)), .long (lI (g q 12)), .long (lI (g q 13)), .ref (a 11), .int (iI (g q 15)), .int (iI (g q 16))])
  else if q = 9 then .inl (yc 1, 3, .inl (fun j : Nat => iI (g q (j : Int))))
  else .inl (yc 0, (if q = 1 then 6 else if q = 2 then 240 else if q = 3 then 40 else if q = 4 then 4 else if q = 5 then 240 else if q = 6 then 98 else if q = 7 then 98 else if q = 8 then 294 else if q = 10 then 6 else 3), .inl (fun j : Nat => iI (g q (j : Int))))
theorem ctm_L (a : Int → Nat) (yc : Nat → ClassId) : Lc (ctm a yc) := by
  intro g g' q h
  unfold ctm
  rw [h]
abbrev mw (a : Int → Nat) (yc : Nat → ClassId) : Mm → va_W := wo 12 a (ctm a yc)
theorem ct_mod {a : Int → Nat} {yc : Nat → ClassId} {g : Mm} : ctm a yc g (0) = .inr (5, [.ref (a (1)), .ref (a (2)), .ref (a (3)), .ref (a (4)), .ref (a (5)), .ref (a (6)), .ref (a (7)), .ref (a (8)), .ref (a (9)), .ref (a (10)), .int (iI (g (0) 10)), .int (iI (g (0) 11)), .long (lI (g (0) 12)), .long (lI (g (0) 13)), .ref (a (11)), .int (iI (g (0) 15)), .int (iI (g (0) 16))]) := by unfold ctm; rfl
theorem cs_mod_10 {a : Int → Nat} {yc : Nat → ClassId} {g : Mm} {z : Int} : (.inr (5, ([.ref (a (1)), .ref (a (2)), .ref (a (3)), .ref (a (4)), .ref (a (5)), .ref (a (6)), .ref (a (7)), .ref (a (8)), .ref (a (9)), .ref (a (10)), .int (iI (g (0) 10)), .int (iI (g (0) 11)), .long (lI (g (0) 12)), .long (lI (g (0) 13)), .ref (a (11)), .int (iI (g (0) 15)), .int (iI (g (0) 16))] : List Value).set 10 (.int (iI z))) : va_E) = ctm a yc (mu g (0) ((10 : Nat) : Int) z) (0) := by
  rw [ct_mod]
  simp [List.set, mu]
theorem cs_mod_11 {a : Int → Nat} {yc : Nat → ClassId} {g : Mm} {z : Int} : (.inr (5, ([.ref (a (1)), .ref (a (2)), .ref (a (3)), .ref (a (4)), .ref (a (5)), .ref (a (6)), .ref (a (7)), .ref (a (8)), .ref (a (9)), .ref (a (10)), .int (iI (g (0) 10)), .int (iI (g (0) 11)), .long (lI (g (0) 12)), .long (lI (g (0) 13)), .ref (a (11)), .int (iI (g (0) 15)), .int (iI (g (0) 16))] : List Value).set 11 (.int (iI z))) : va_E) = ctm a yc (mu g (0) ((11 : Nat) : Int) z) (0) := by
  rw [ct_mod]
  simp [List.set, mu]
theorem cs_mod_12 {a : Int → Nat} {yc : Nat → ClassId} {g : Mm} {z : Int} : (.inr (5, ([.ref (a (1)), .ref (a (2)), .ref (a (3)), .ref (a (4)), .ref (a (5)), .ref (a (6)), .ref (a (7)), .ref (a (8)), .ref (a (9)), .ref (a (10)), .int (iI (g (0) 10)), .int (iI (g (0) 11)), .long (lI (g (0) 12)), .long (lI (g (0) 13)), .ref (a (11)), .int (iI (g (0) 15)), .int (iI (g (0) 16))] : List Value).set 12 (.long (lI z))) : va_E) = ctm a yc (mu g (0) ((12 : Nat) : Int) z) (0) := by
  rw [ct_mod]
  simp [List.set, mu]
theorem cs_mod_13 {a : Int → Nat} {yc : Nat → ClassId} {g : Mm} {z : Int} : (.inr (5, ([.ref (a (1)), .ref (a (2)), .ref (a (3)), .ref (a (4)), .ref (a (5)), .ref (a (6)), .ref (a (7)), .ref (a (8)), .ref (a (9)), .ref (a (10)), .int (iI (g (0) 10)), .int (iI (g (0) 11)), .long (lI (g (0) 12)), .long (lI (g (0) 13)), .ref (a (11)), .int (iI (g (0) 15)), .int (iI (g (0) 16))] : List Value).set 13 (.long (lI z))) : va_E) = ctm a yc (mu g (0) ((13 : Nat) : Int) z) (0) := by
  rw [ct_mod]
  simp [List.set, mu]
theorem cs_mod_15 {a : Int → Nat} {yc : Nat → ClassId} {g : Mm} {z : Int} : (.inr (5, ([.ref (a (1)), .ref (a (2)), .ref (a (3)), .ref (a (4)), .ref (a (5)), .ref (a (6)), .ref (a (7)), .ref (a (8)), .ref (a (9)), .ref (a (10)), .int (iI (g (0) 10)), .int (iI (g (0) 11)), .long (lI (g (0) 12)), .long (lI (g (0) 13)), .ref (a (11)), .int (iI (g (0) 15)), .int (iI (g (0) 16))] : List Value).set 15 (.int (iI z))) : va_E) = ctm a yc (mu g (0) ((15 : Nat) : Int) z) (0) := by
  rw [ct_mod]
  simp [List.set, mu]
theorem cs_mod_16 {a : Int → Nat} {yc : Nat → ClassId} {g : Mm} {z : Int} : (.inr (5, ([.ref (a (1)), .ref (a (2)), .ref (a (3)), .ref (a (4)), .ref (a (5)), .ref (a (6)), .ref (a (7)), .ref (a (8)), .ref (a (9)), .ref (a (10)), .int (iI (g (0) 10)), .int (iI (g (0) 11)), .long (lI (g (0) 12)), .long (lI (g (0) 13)), .ref (a (11)), .int (iI (g (0) 15)), .int (iI (g (0) 16))] : List Value).set 16 (.int (iI z))) : va_E) = ctm a yc (mu g (0) ((16 : Nat) : Int) z) (0) := by
  rw [ct_mod]
  simp [List.set, mu]
theorem ct_msizes {a : Int → Nat} {yc : Nat → ClassId} {g : Mm} : ctm a yc g (1) = .inl (yc 0, 6, .inl (fun j : Nat => iI (g (1) (j : Int)))) := by unfold ctm; rfl
theorem ct_mitems {a : Int → Nat} {yc : Nat → ClassId} {g : Mm} : ctm a yc g (2) = .inl (yc 0, 240, .inl (fun j : Nat => iI (g (2) (j : Int)))) := by unfold ctm; rfl
theorem ct_mspare {a : Int → Nat} {yc : Nat → ClassId} {g : Mm} : ctm a yc g (3) = .inl (yc 0, 40, .inl (fun j : Nat => iI (g (3) (j : Int)))) := by unfold ctm; rfl
theorem ct_mlengths {a : Int → Nat} {yc : Nat → ClassId} {g : Mm} : ctm a yc g (4) = .inl (yc 0, 4, .inl (fun j : Nat => iI (g (4) (j : Int)))) := by unfold ctm; rfl
theorem ct_mbytes {a : Int → Nat} {yc : Nat → ClassId} {g : Mm} : ctm a yc g (5) = .inl (yc 0, 240, .inl (fun j : Nat => iI (g (5) (j : Int)))) := by unfold ctm; rfl
theorem ct_mnow {a : Int → Nat} {yc : Nat → ClassId} {g : Mm} : ctm a yc g (6) = .inl (yc 0, 98, .inl (fun j : Nat => iI (g (6) (j : Int)))) := by unfold ctm; rfl
theorem ct_mdraft {a : Int → Nat} {yc : Nat → ClassId} {g : Mm} : ctm a yc g (7) = .inl (yc 0, 98, .inl (fun j : Nat => iI (g (7) (j : Int)))) := by unfold ctm; rfl
theorem ct_mkept {a : Int → Nat} {yc : Nat → ClassId} {g : Mm} : ctm a yc g (8) = .inl (yc 0, 294, .inl (fun j : Nat => iI (g (8) (j : Int)))) := by unfold ctm; rfl
theorem ct_misKept {a : Int → Nat} {yc : Nat → ClassId} {g : Mm} : ctm a yc g (9) = .inl (yc 1, 3, .inl (fun j : Nat => iI (g (9) (j : Int)))) := by unfold ctm; rfl
theorem ct_mfound {a : Int → Nat} {yc : Nat → ClassId} {g : Mm} : ctm a yc g (10) = .inl (yc 0, 6, .inl (fun j : Nat => iI (g (10) (j : Int)))) := by unfold ctm; rfl
theorem ct_mparts {a : Int → Nat} {yc : Nat → ClassId} {g : Mm} : ctm a yc g (11) = .inl (yc 0, 3, .inl (fun j : Nat => iI (g (11) (j : Int)))) := by unfold ctm; rfl
