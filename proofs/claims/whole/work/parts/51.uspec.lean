/-! DEEDS undone: the class's and the flat farms'. -/
def unE (V N : Int → Int) (j w : Int) : Prop :=
  (N 0 = V 0 ∧ N 1 = V 1 ∧ N 2 = V 2 ∧ N 3 = V 3 - dDay w ∧ N 4 = j ∧ N 5 = V 5 - dNet w) ∧ (∀ i, 6 ≤ i → i < 20 → N i = V i) ∧
  (∀ i, 0 ≤ i → i < 6 → N (20 + 3 * i) = V (20 + 3 * i) ∧ N (20 + 3 * i + 1) = V (20 + 3 * i + 1) ∧ N (20 + 3 * i + 2) = if w = 1 + i then 1 - V (20 + 3 * i + 2) else V (20 + 3 * i + 2)) ∧
  (∀ k, 0 ≤ k → k < j → N (38 + k) = V (38 + k))
theorem un_FI {V N : Int → Int} {j w : Int} (HI : FI V) (h4 : V 4 = j + 1) (hj : 0 ≤ j) (hw : V (38 + j) = w) (E : unE V N j w) : FI N := by
  obtain ⟨⟨n0, n1, n2, n3, n4, n5⟩, nj, ni, nk⟩ := E
  have hn := HI.n
  have hz := HI.z
  have ht := HI.td
  have hd : 0 ≤ dDay w := by unfold dDay; split <;> omega
  refine ⟨by rw [n0, n1, n2, n4]; omega, fun i a b => ?_, fun i a b => ?_, fun i a b => ?_, fun k a b => ?_, ?_, ?_, by omega, by rw [n0, n4]; omega⟩
  · rw [n1] at b; rw [nj _ (by omega) (by omega)]; exact HI.t a b
  · rw [n2] at b; rw [nj _ (by omega) (by omega)]; exact HI.m a b
  · rw [n0] at b
    obtain ⟨w1, w2, w3⟩ := ni i a (by omega)
    have := HI.b a b
    rw [w1, w2, w3]
    refine ⟨this.1, this.2.1, ?_⟩
    split <;> omega
  · rw [n4] at b; rw [n0, nk k a b]; exact HI.d a (by omega)
  · have e : V 3 = dSum dDay V (V 4).toNat := HI.2.2.2.2.2.1
    rw [h4, show (j + 1).toNat = j.toNat + 1 by omega] at e
    have e2 : dSum dDay V (j.toNat + 1) = dSum dDay V j.toNat + dDay (V (38 + (j.toNat : Int))) := rfl
    rw [show (j.toNat : Int) = j by omega, hw] at e2
    rw [n3, n4, dSum_cg (F' := V) (fun k a b => nk k a (by omega))]
    omega
  · have e : V 5 = dSum dNet V (V 4).toNat := HI.2.2.2.2.2.2.1
    rw [h4, show (j + 1).toNat = j.toNat + 1 by omega] at e
    have e2 : dSum dNet V (j.toNat + 1) = dSum dNet V j.toNat + dNet (V (38 + (j.toNat : Int))) := rfl
    rw [show (j.toNat : Int) = j by omega, hw] at e2
    rw [n5, n4, dSum_cg (F' := V) (fun k a b => nk k a (by omega))]
    omega
/-- the class's memory behind one deed undone -/
theorem un_FR {g : Mm} {V N : Int → Int} {j w : Int} (HF : FR g 0 V) (HI : FI V) (h4 : V 4 = j + 1) (hj : 0 ≤ j) (hw : V (38 + j) = w) (E : unE V N j w) : FR (mu (un1 g 0 (g (46 + 0) j) (g (51 + 0) j)) (26 + 0) 8 j) 0 N := by
  obtain ⟨⟨n0, n1, n2, n3, n4, n5⟩, nj, ni, nk⟩ := E
  have hn := HI.n
  obtain ⟨X, hX, e31, e36, e46, e51, e7, e5, e6, e9, e10, eb⟩ : ∃ X, un1 g 0 (g (46 + 0) j) (g (51 + 0) j) = X ∧ X (31 + 0) = g (31 + 0) ∧ X (36 + 0) = g (36 + 0) ∧ X (46 + 0) = g (46 + 0) ∧ X (51 + 0) = g (51 + 0) ∧ X (26 + 0) 7 = g (26 + 0) 7 ∧ X (26 + 0) 5 = g (26 + 0) 5 ∧ X (26 + 0) 6 = g (26 + 0) 6 ∧ X (26 + 0) 9 = V 3 - dDay w ∧ X (26 + 0) 10 = V 5 - dNet w ∧
      (∀ i, 0 ≤ i → i < V 0 → (∀ m, m ≠ 2 → X (56 + 6 * 0 + i) m = g (56 + 6 * 0 + i) m) ∧ X (56 + 6 * 0 + i) 2 = if w = 1 + i then 1 - V (20 + 3 * i + 2) else V (20 + 3 * i + 2)) := by
    refine ⟨_, rfl, ?_⟩
    have hk := HF.2.2.2.2 j hj (by omega)
    rw [hw] at hk
    have hb : ∀ i, 0 ≤ i → i < V 0 → g (56 + 6 * 0 + i) 2 = V (20 + 3 * i + 2) := fun i a b => (HF.bs a b).2.2.1
    rcases hk with ⟨h1, h2⟩ | ⟨h1, h2, h3, h5⟩ | h
    · have e : un1 g 0 (g (46 + 0) j) (g (51 + 0) j) = mu g (26 + 0) 9 (g (26 + 0) 9 - 1) := by unfold un1; rw [if_pos h2]
      rw [e]
      have d0 : dDay w = 1 := by unfold dDay; rw [if_pos h1]
      have d1 : dNet w = 0 := by unfold dNet; rw [if_pos (by omega)]
      refine ⟨mu_ne (by decide), mu_ne (by decide), mu_ne (by decide), mu_ne (by decide), mu_nj (by decide), mu_nj (by decide), mu_nj (by decide), ?_, ?_, fun i a b => ⟨fun m hm => by rw [mu_ne (by omega)], ?_⟩⟩
      · rw [mu_at, HF.td]; omega
      · rw [mu_nj (by decide), HF.pd]; omega
      · rw [mu_ne (by omega), if_neg (by omega), hb i a b]
    · have hd := (HI.d (k := j) hj (by omega)).2
      rw [hw] at hd
      have hd := hd h1 h2
      have e : un1 g 0 (g (46 + 0) j) (g (51 + 0) j) = mu g (56 + 6 * 0 + (w - 1)) 2 (1 - g (56 + 6 * 0 + (w - 1)) 2) := by
        unfold un1; rw [h3, h5, if_neg (by decide), if_neg (by decide), if_pos (by omega)]
      rw [e]
      have d0 : dDay w = 0 := by unfold dDay; rw [if_neg (by omega)]
      have d1 : dNet w = 0 := by unfold dNet; rw [if_pos (by omega)]
      refine ⟨mu_ne (by omega), mu_ne (by omega), mu_ne (by omega), mu_ne (by omega), by rw [mu_ne (by omega)], by rw [mu_ne (by omega)], by rw [mu_ne (by omega)], ?_, ?_, fun i a b => ⟨fun m hm => ?_, ?_⟩⟩
      · rw [mu_ne (by omega), HF.td]; omega
      · rw [mu_ne (by omega), HF.pd]; omega
      · by_cases hi : i = w - 1
        · rw [hi, mu_nj hm]
        · rw [mu_ne (by omega)]
      · by_cases hi : i = w - 1
        · rw [← hi, mu_at, if_pos (by omega), hb i a b]
        · rw [mu_ne (by omega), if_neg (by omega), hb i a b]
    · have h2 : g (46 + 0) j = 2 := by rcases h with h | h <;> exact h.2.2.1
      have d0 : dDay w = 0 := by unfold dDay; rw [if_neg (by rcases h with h | h <;> have := h.1 <;> omega)]
      have d1 : dNet w = g (51 + 0) j := by
        unfold dNet
        rcases h with ⟨a, b, c, d⟩ | ⟨a, b, c, d⟩
        · rw [if_neg (by omega), if_pos (by omega), d]
        · rw [if_neg (by omega), if_neg (by omega), d]
      have hw9 : 7 ≤ w := by rcases h with h | h <;> have := h.1 <;> omega
      have e : un1 g 0 (g (46 + 0) j) (g (51 + 0) j) = mu g (26 + 0) 10 (g (26 + 0) 10 - g (51 + 0) j) := by unfold un1; rw [h2, if_neg (by decide), if_pos rfl]
      rw [e]
      refine ⟨mu_ne (by decide), mu_ne (by decide), mu_ne (by decide), mu_ne (by decide), mu_nj (by decide), mu_nj (by decide), mu_nj (by decide), ?_, ?_, fun i a b => ⟨fun m hm => by rw [mu_ne (by omega)], ?_⟩⟩
      · rw [mu_nj (by decide), HF.td]; omega
      · rw [mu_at, HF.pd, d1]
      · rw [mu_ne (by omega), if_neg (by omega), hb i a b]
  rw [hX]
  refine ⟨⟨?_, ?_, ?_, ?_, ?_, ?_⟩, fun i a b => ?_, fun i a b => ?_, fun i a b => ?_, fun k a b => ?_⟩
  · rw [mu_nj (by decide), e7, n0]; exact HF.bc
  · rw [mu_nj (by decide), e5, n1]; exact HF.tc
  · rw [mu_nj (by decide), e6, n2]; exact HF.mc
  · rw [mu_nj (by decide), e9, n3]
  · rw [mu_at, n4]
  · rw [mu_nj (by decide), e10, n5]
  · rw [n1] at b; rw [mu_ne (by decide), e31, nj _ (by omega) (by omega)]; exact HF.tn a b
  · rw [n2] at b; rw [mu_ne (by decide), e36, nj _ (by omega) (by omega)]; exact HF.mk a b
  · rw [n0] at b
    obtain ⟨w1, w2, w3⟩ := ni i a (by omega)
    have hb := HF.bs a b
    have he := eb i a b
    rw [mu_ne (by omega), w1, w2, w3, he.1 0 (by decide), he.1 1 (by decide), he.1 3 (by decide), he.1 4 (by decide), he.2]
    exact ⟨hb.1, hb.2.1, rfl, hb.2.2.2⟩
  · rw [n4] at b
    rw [mu_ne (by decide), mu_ne (by decide), e46, e51, nk k a b]; exact HF.2.2.2.2 k a (by omega)
/-- the flat farms behind c deeds undone, their number set -/
def uV (F : Int → Int) (dc : Int) (c : Nat) : Int → Int := fu (uF F dc c) 4 (dc - c)
theorem uF_s (F : Int → Int) (dc : Int) (c : Nat) : uF F dc (c + 1) = fu (tuF (uF F dc c) (uF F dc c (38 + (dc - 1 - c))) (-1)) (38 + (dc - 1 - c)) 0 := rfl
theorem uV_E {F : Int → Int} {dc : Int} {c : Nat} {w : Int} (hc : (c : Int) < dc) (hdc : dc ≤ 60) (HI : FI (uV F dc c)) (hw : uV F dc c (38 + (dc - 1 - c)) = w) : unE (uV F dc c) (uV F dc (c + 1)) (dc - 1 - c) w := by
  have h4 : uV F dc c 4 = dc - c := fu_at _ _ _
  have hk := (HI.d (k := dc - 1 - c) (by omega) (by omega)).1
  rw [hw] at hk
  have hw2 : uF F dc c (38 + (dc - 1 - c)) = w := by rw [← hw]; unfold uV; rw [fu_ne (by omega)]
  unfold dOk at hk
  unfold uV unE
  rw [uF_s, hw2]
  generalize uF F dc c = X
  generalize hj : dc - 1 - (c : Int) = j
  have hj0 : 0 ≤ j := by omega
  have hj1 : j < 60 := by omega
  have hd : dc - ((c + 1 : Nat) : Int) = j := by omega
  rw [hd]
  rcases hk with h | h | h
  · subst h
    have e : tuF X 0 (-1) = fu X 3 (X 3 + -1) := by unfold tuF; rw [if_pos rfl]
    rw [e]
    simp only [fu, dDay, dNet]
    refine ⟨⟨?_, ?_, ?_, ?_, ?_, ?_⟩, fun i a b => ?_, fun i a b => ⟨?_, ?_, ?_⟩, fun k a b => ?_⟩ <;> repeat (first | rfl | rw [if_neg (by omega)] | rw [if_pos (by omega)])
    all_goals omega
  · have e : tuF X w (-1) = fu X (20 + 3 * (w - 1) + 2) (1 - X (20 + 3 * (w - 1) + 2)) := by unfold tuF; rw [if_neg (by omega), if_pos (by omega)]
    have d0 : dDay w = 0 := by unfold dDay; rw [if_neg (by omega)]
    have d1 : dNet w = 0 := by unfold dNet; rw [if_pos (by omega)]
    rw [e, d0, d1, Int.sub_zero, Int.sub_zero]
    simp only [fu]
    refine ⟨⟨?_, ?_, ?_, ?_, ?_, ?_⟩, fun i a b => ?_, fun i a b => ⟨?_, ?_, ?_⟩, fun k a b => ?_⟩
    · repeat (first | rfl | rw [if_neg (by omega)] | rw [if_pos (by omega)])
    · repeat (first | rfl | rw [if_neg (by omega)] | rw [if_pos (by omega)])
    · repeat (first | rfl | rw [if_neg (by omega)] | rw [if_pos (by omega)])
    · repeat (first | rfl | rw [if_neg (by omega)] | rw [if_pos (by omega)])
    · repeat (first | rfl | rw [if_neg (by omega)] | rw [if_pos (by omega)])
    · repeat (first | rfl | rw [if_neg (by omega)] | rw [if_pos (by omega)])
    · repeat (first | rfl | rw [if_neg (by omega)] | rw [if_pos (by omega)])
    · repeat (first | rfl | rw [if_neg (by omega)] | rw [if_pos (by omega)])
    · repeat (first | rfl | rw [if_neg (by omega)] | rw [if_pos (by omega)])
    · by_cases hi : w = 1 + i
      · rw [if_pos hi, if_neg (by omega), if_neg (by omega), if_pos (by omega), if_neg (by omega), show w - 1 = i by omega]
      · rw [if_neg hi, if_neg (by omega), if_neg (by omega), if_neg (by omega), if_neg (by omega)]
    · repeat (first | rfl | rw [if_neg (by omega)] | rw [if_pos (by omega)])
  · have e : tuF X w (-1) = fu X 5 (X 5 - dNet w) := by
      unfold tuF dNet
      rw [if_neg (by omega), if_neg (show ¬ w < 100 by omega), if_neg (show ¬ w < 100 by omega)]
      congr 1
      by_cases h2 : w < 200
      · rw [if_pos h2, if_pos h2]; omega
      · rw [if_neg h2, if_neg h2]; omega
    have d0 : dDay w = 0 := by unfold dDay; rw [if_neg (by omega)]
    rw [e, d0, Int.sub_zero]
    generalize dNet w = z
    simp only [fu]
    refine ⟨⟨?_, ?_, ?_, ?_, ?_, ?_⟩, fun i a b => ?_, fun i a b => ⟨?_, ?_, ?_⟩, fun k a b => ?_⟩ <;> repeat (first | rfl | rw [if_neg (by omega)] | rw [if_pos (by omega)])
theorem uV_ok {g : Mm} {F : Int → Int} (HF : FR g 0 F) (HI : FI F) : ∀ c : Nat, (c : Int) ≤ F 4 → FI (uV F (F 4) c) ∧ FR (unN g 0 (F 4) c) 0 (uV F (F 4) c) ∧ (∀ k, 0 ≤ k → k < F 4 - c → uF F (F 4) c (38 + k) = F (38 + k))
  | 0, _ => by
    have e : uV F (F 4) 0 = F := by unfold uV; funext i; unfold fu; by_cases h : i = 4 <;> simp [h, uF]
    rw [e]; exact ⟨HI, HF, fun k _ _ => rfl⟩
  | c + 1, hc => by
    have ih := uV_ok HF HI c (by omega)
    have hn := HI.n
    have h4 : uV F (F 4) c 4 = F 4 - 1 - c + 1 := by unfold uV; rw [fu_at]; omega
    have E := uV_E (F := F) (dc := F 4) (c := c) (by omega) (by omega) ih.1 rfl
    refine ⟨un_FI ih.1 h4 (by omega) rfl E, ?_, fun k a b => ?_⟩
    · exact un_FR ih.2.1 ih.1 h4 (by omega) rfl E
    · have e1 := E.2.2.2 k a (by omega)
      unfold uV at e1
      rw [fu_ne (by omega), fu_ne (by omega)] at e1
      rw [e1]; exact ih.2.2 k a (by omega)
theorem undo_R {g : Mm} {F : Int → Int} (HF : FR g 0 F) {j : Int} (a : 0 ≤ j) (b : j < F 4) : R32 (g (46 + 0) j) ∧ (¬ g (46 + 0) j = 0 → R32 (g (51 + 0) j)) := by
  have h9 := HF.2.2.2.2 j a b
  rcases h9 with h | h | h | h
  · exact ⟨by omega, fun z => absurd h.2 z⟩
  · exact ⟨by omega, fun _ => by omega⟩
  · exact ⟨by omega, fun _ => by omega⟩
  · exact ⟨by omega, fun _ => by omega⟩
