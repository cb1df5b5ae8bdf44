/-! Farms that become others. -/
theorem mcp_o {g : Mm} {q0 s q1 d n p : Int} (h : p ≠ q1) : mcp g q0 s q1 d n p = g p := by funext j; unfold mcp; rw [if_neg (fun z => h z.1)]
theorem mcp_i {g : Mm} {q0 q1 n j : Int} (h0 : 0 ≤ j) (h1 : j < n) : mcp g q0 0 q1 0 n q1 j = g q0 j := by
  unfold mcp; rw [if_pos ⟨rfl, h0, by omega⟩, show (0 : Int) + (j - 0) = j by omega]
abbrev oF (f q : Int) : Prop := q ≠ 26 + f ∧ q ≠ 31 + f ∧ q ≠ 36 + f ∧ q ≠ 46 + f ∧ q ≠ 51 + f ∧ (q < 56 + 6 * f ∨ 62 + 6 * f ≤ q)
def bR (g h : Mm) (f k : Int) (F : Int → Int) : Prop :=
  (∀ q, q ≠ 31 + f → q ≠ 36 + f → q ≠ 46 + f → q ≠ 51 + f → (q < 56 + 6 * f ∨ 62 + 6 * f ≤ q) → h q = g q) ∧
  (∀ j, 0 ≤ j → j < 8 → h (31 + f) j = g (31 + k) j) ∧ (∀ j, 0 ≤ j → j < 6 → h (36 + f) j = g (36 + k) j) ∧
  (∀ j, 0 ≤ j → j < 60 → h (46 + f) j = g (46 + k) j ∧ h (51 + f) j = g (51 + k) j) ∧
  (∀ i, 0 ≤ i → i < F 0 → h (56 + 6 * f + i) 0 = F (20 + 3 * i) ∧ h (56 + 6 * f + i) 1 = F (20 + 3 * i + 1) ∧ h (56 + 6 * f + i) 2 = F (20 + 3 * i + 2) ∧ h (56 + 6 * f + i) 3 = vTo (F (20 + 3 * i)) (F (20 + 3 * i + 1)) 0 ∧ h (56 + 6 * f + i) 4 = vTo (F (20 + 3 * i)) (F (20 + 3 * i + 1)) 1)
theorem bR_of {g h : Mm} {f k : Int} {F : Int → Int} (h0 : 0 ≤ f ∧ f < 5) (h1 : (0 ≤ k ∧ k < 5) ∧ ¬ f = k)
    (H : ∀ q, (q < 56 + 6 * f ∨ 62 + 6 * f ≤ q) → h q = mcp (mcp g (31 + k) 0 (31 + f) 0 8) (36 + k) 0 (36 + f) 0 6 q)
    (HB : ∀ i, 0 ≤ i → i < F 0 → h (56 + 6 * f + i) 0 = F (20 + 3 * i) ∧ h (56 + 6 * f + i) 1 = F (20 + 3 * i + 1) ∧ h (56 + 6 * f + i) 2 = F (20 + 3 * i + 2) ∧ h (56 + 6 * f + i) 3 = vTo (F (20 + 3 * i)) (F (20 + 3 * i + 1)) 0 ∧ h (56 + 6 * f + i) 4 = vTo (F (20 + 3 * i)) (F (20 + 3 * i + 1)) 1) :
    bR g (mcp (mcp h (46 + k) 0 (46 + f) 0 60) (51 + k) 0 (51 + f) 0 60) f k F := by
  refine ⟨?_, ?_, ?_, ?_, ?_⟩
  · intro q a b c d e
    rw [mcp_o d, mcp_o c, H q e, mcp_o b, mcp_o a]
  · intro j a b
    rw [mcp_o (by omega), mcp_o (by omega), H _ (by omega), mcp_o (by omega), mcp_i a b]
  · intro j a b
    rw [mcp_o (by omega), mcp_o (by omega), H _ (by omega), mcp_i a b, mcp_o (by omega)]
  · intro j a b
    constructor
    · rw [mcp_o (by omega), mcp_i a b, H _ (by omega), mcp_o (by omega), mcp_o (by omega)]
    · rw [mcp_i a b, mcp_o (by omega), H _ (by omega), mcp_o (by omega), mcp_o (by omega)]
  · intro i a b
    by_cases hi : i < 6
    · rw [mcp_o (by omega), mcp_o (by omega)]; exact HB i a b
    · rw [mcp_o (by omega), mcp_o (by omega)]; exact HB i a b
theorem bR_fin {g h : Mm} {f k : Int} {F : Int → Int} (hf : 0 ≤ f ∧ f < 5) (hk : 0 ≤ k ∧ k < 5) (hfk : ¬ f = k) (HF : FR g k F) (HI : FI F) (H : bR g h f k F) :
    FR (mu (mu (mu (mu (mu (mu h (26 + f) 5 (F 1)) (26 + f) 6 (F 2)) (26 + f) 7 (F 0)) (26 + f) 8 (F 4)) (26 + f) 9 (F 3)) (26 + f) 10 (F 5)) f F ∧ ∀ q, oF f q → (mu (mu (mu (mu (mu (mu h (26 + f) 5 (F 1)) (26 + f) 6 (F 2)) (26 + f) 7 (F 0)) (26 + f) 8 (F 4)) (26 + f) 9 (F 3)) (26 + f) 10 (F 5)) q = g q := by
  have n := HI.n
  have e : ∀ q, q ≠ 26 + f → (mu (mu (mu (mu (mu (mu h (26 + f) 5 (F 1)) (26 + f) 6 (F 2)) (26 + f) 7 (F 0)) (26 + f) 8 (F 4)) (26 + f) 9 (F 3)) (26 + f) 10 (F 5)) q = h q := fun q hq => by
    rw [mu_ne hq, mu_ne hq, mu_ne hq, mu_ne hq, mu_ne hq, mu_ne hq]
  refine ⟨⟨?_, ?_, ?_, ?_, ?_⟩, ?_⟩
  · unfold mu; simp
  · intro j a b; rw [e _ (by omega), H.2.1 j a (by omega)]; exact HF.tn a b
  · intro j a b; rw [e _ (by omega), H.2.2.1 j a (by omega)]; exact HF.mk a b
  · intro i a b; rw [e _ (by omega)]; exact H.2.2.2.2 i a b
  · intro j a b
    have h2 := H.2.2.2.1 j a (by omega)
    rw [e _ (by omega), e _ (by omega), h2.1, h2.2]; exact HF.2.2.2.2 j a b
  · intro q o; rw [e q o.1]; exact H.1 q o.2.1 o.2.2.1 o.2.2.2.1 o.2.2.2.2.1 o.2.2.2.2.2
