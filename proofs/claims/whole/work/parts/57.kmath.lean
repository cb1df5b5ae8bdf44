/-! The reader reads alike what is alike. -/
section QC
variable {B B' : Int → Int} {L : Int}
theorem lk_cg (he : ∀ p, 0 ≤ p → p < L → B p = B' p) {p : Int} (h : 0 ≤ p) : lk B L p = lk B' L p := by
  unfold lk
  by_cases q : p < L
  · rw [if_pos q, if_pos q, he p h q]
  · rw [if_neg q, if_neg q]
theorem skN_cg (he : ∀ p, 0 ≤ p → p < L → B p = B' p) : ∀ (n : Nat) (p : Int), 0 ≤ p → skN B L n p = skN B' L n p
  | 0, _, _ => rfl
  | n + 1, p, h => by unfold skN; rw [lk_cg he h, skN_cg he n (p + 1) (by omega)]
theorem sk_cg (he : ∀ p, 0 ≤ p → p < L → B p = B' p) {p : Int} (h : 0 ≤ p) : sk B L p = sk B' L p := skN_cg he _ p h
theorem rX_cg (he : ∀ p, 0 ≤ p → p < L → B p = B' p) {lo hi : Int} {mx : Nat} {q : Int} (h : 0 ≤ q) : rX B L lo hi mx q = rX B' L lo hi mx q := ff_cg (fun e a _ => by unfold ntP; rw [lk_cg he (by omega)])
theorem rD_cg (he : ∀ p, 0 ≤ p → p < L → B p = B' p) {lo bs cs q : Int} {D : Int → Int} (h : 0 ≤ q) : ∀ n, rD B L lo bs cs q D n = rD B' L lo bs cs q D n
  | 0 => rfl
  | n + 1 => by
    show fu (fu _ _ _) _ _ = fu (fu _ _ _) _ _
    rw [rD_cg he h n, lk_cg he (by omega)]
theorem i_cg (he : ∀ p, 0 ≤ p → p < L → B p = B' p) (hL : L ≤ 60) {c lo hi bs cs p : Int} {mx : Nat} {D : Int → Int} (h : 0 ≤ p) (h2 : p ≤ 60) : iP B L c lo hi mx p = iP B' L c lo hi mx p ∧ iW B L c lo hi mx p = iW B' L c lo hi mx p ∧ iD B L c lo hi bs cs mx p D = iD B' L c lo hi bs cs mx p D := by
  have hs := sk_r B' hL h2
  unfold iP iW iD rP rW
  rw [sk_cg he h, lk_cg he (by omega), rX_cg he (by omega), rD_cg he (by omega)]
  exact ⟨rfl, rfl, rfl⟩
theorem b_cg (he : ∀ p, 0 ≤ p → p < L → B p = B' p) {D : Int → Int} {p : Int} (h : 0 ≤ p) : bP B L D p = bP B' L D p ∧ bW B L D p = bW B' L D p ∧ bD B L D p = bD B' L D p := by
  unfold bP bW bD b1 b2 b3
  simp only [lk_cg he h, lk_cg he (show 0 ≤ p + 1 by omega), lk_cg he (show 0 ≤ p + 2 by omega)]
  exact ⟨trivial, trivial, trivial⟩
theorem bsL_cg (he : ∀ p, 0 ≤ p → p < L → B p = B' p) (hL : L ≤ 60) : ∀ (n : Nat) (D : Int → Int) (p : Int), 0 ≤ p → p ≤ 60 → bsL B L n D p = bsL B' L n D p
  | 0, _, _, _, _ => rfl
  | n + 1, D, p, h, h2 => by
    have hb := bP_r (B := B') (D := D) h hL h2
    have hs := sk_r B' (L := L) (p := bP B' L D p) hL hb.2
    obtain ⟨e1, e2, e3⟩ := b_cg he (D := D) h
    unfold bsL
    rw [e1, e2, e3, sk_cg he (by omega), bsL_cg he hL n (bD B' L D p) (sk B' L (bP B' L D p)) (by omega) (by omega)]
theorem qB_cg (he : ∀ p, 0 ≤ p → p < L → B p = B' p) (hL : L ≤ 60) (D : Int → Int) : qB B L D = qB B' L D := by
  have hT := qT_r (B := B') (D := D) hL
  have hM := qM_r (B := B') (D := D) hL
  have eT : qT B L D = qT B' L D := by
    obtain ⟨e1, e2, e3⟩ := i_cg he hL (c := 116) (lo := 97) (hi := 98) (bs := 6) (cs := 1) (mx := 8) (p := 0) (D := D) (by omega) (by omega)
    unfold qT; rw [e1, e2, e3]
  have eM : qM B L D = qM B' L D := by
    obtain ⟨e1, e2, e3⟩ := i_cg he hL (c := 109) (lo := 48) (hi := 57) (bs := 14) (cs := 2) (mx := 6) (p := (qT B' L D).1) (D := (qT B' L D).2.2) hT.1 hT.2
    unfold qM; rw [eT, e1, e2, e3]
  have hs := sk_r B' (L := L) (p := (qM B' L D).1) hL hM.2
  unfold qB
  rw [eM, sk_cg he hM.1, bsL_cg he hL 8 _ _ (by omega) (by omega)]
end QC
theorem pS_sc {g h : Mm} {D : Int → Int} {p w : Int} (H : RSc g h) : RSc g (pS h D p w) := by
  unfold RSc
  rw [pS_o (by decide) (by decide)]
  have e : ∀ j, j ≠ 15 → j ≠ 16 → pS h D p w 0 j = h 0 j := fun j a b => by unfold pS; rw [mu_nj b, mu_nj a, ru_ne (by decide)]
  rw [e 10 (by decide) (by decide), e 11 (by decide) (by decide), e 12 (by decide) (by decide), e 13 (by decide) (by decide)]
  exact H
theorem CR_Rel {g g9 h : Mm} {E D : Int → Int} {x p w : Int} (H : Rel g h) (K : CR g g9 E x) : Rel g9 (pS h D p w) := by
  have e : ∀ q, q ≠ 4 → ¬ q = 30 → ¬ q = 35 → ¬ q = 40 → q < 80 → g9 q = g q := fun q a b c d f => by funext j; exact K.2.2 q j ⟨fun z => a z.1, b, c, d, Or.inl f⟩
  refine Rel_sc H (fun q hq => e q (by omega) (by omega) (by omega) (by omega) (by omega)) (fun q hq => pS_o (by omega) (by omega)) ?_
  have s := pS_sc (D := D) (p := p) (w := w) H.2.2.2.2
  exact RSc_cg s (e 0 (by decide) (by decide) (by decide) (by decide) (by decide)) (e 5 (by decide) (by decide) (by decide) (by decide) (by decide)) rfl rfl
/-- other farms, as the class's and the reference's own texts or kept ones have them -/
theorem Rel_fm2 {g g' h h' : Mm} {F : Int → Int} (H : Rel g h) (e : ∀ q, oF 0 q → g' q = g q) (f : ∀ q, q ≠ 6 → h' q = h q) (f6 : ∀ j, 0 ≤ j → j < 98 → h' 6 j = F j) (HF : FR g' 0 F) (HI : FI F) (hz : F 0 = 0 → F 1 = 0) : Rel g' h' := by
  have o : ∀ q, (6 ≤ q ∧ q < 26) ∨ q = 0 ∨ q = 5 → oF 0 q := fun q h => ⟨by omega, by omega, by omega, by omega, by omega, by omega⟩
  refine ⟨RRow_cg H.1 (fun q a b => e q (o q (by omega))) (f 1 (by decide)) (f 2 (by decide)), RTxt_cg H.2.1 (fun q a b => e q (o q (by omega))) (f 4 (by decide)) (f 5 (by decide)), ⟨FR_F HI HF f6, FI_F HI f6, by rw [f6 0 (by decide) (by decide), f6 1 (by decide) (by decide)]; exact hz⟩, RKp_cg H.2.2.2.1 (fun k q a b hq => e q ⟨by omega, by omega, by omega, by omega, by omega, by omega⟩) (f 8 (by decide)) (f 9 (by decide)), RSc_cg H.2.2.2.2 (e 0 (o 0 (by omega))) (e 5 (o 5 (by omega))) (f 0 (by decide)) (f 10 (by decide))⟩
theorem keep_Rel {g g' h : Mm} {k : Int} (H : Rel g h) (h0 : 0 ≤ k) (h1 : k < 3) (hz : ¬ h 6 0 = 0) (HF : FR g' (1 + k) (h 6)) (e : ∀ q, oF (1 + k) q → g' q = g q) : Rel g' (mu (cpf h 8 (98 * k) 98 (fun x => h 6 (0 + x))) 9 k 1) := by
  have hn := H.I.n
  have f : ∀ q, q ≠ 8 → q ≠ 9 → mu (cpf h 8 (98 * k) 98 (fun x => h 6 (0 + x))) 9 k 1 q = h q := fun q a b => by rw [mu_ne b, cpf_o a]
  have f8 : ∀ j, mu (cpf h 8 (98 * k) 98 (fun x => h 6 (0 + x))) 9 k 1 8 j = if 98 * k ≤ j ∧ j < 98 * k + 98 then h 6 (j - 98 * k) else h 8 j := fun j => by
    rw [mu_ne (by decide)]; unfold cpf
    by_cases c : 98 * k ≤ j ∧ j < 98 * k + 98
    · rw [if_pos ⟨rfl, c⟩, if_pos c]; show h 6 (0 + (j - 98 * k)) = _; rw [Int.zero_add]
    · rw [if_neg (fun z => c z.2), if_neg c]
  have f9 : ∀ j, mu (cpf h 8 (98 * k) 98 (fun x => h 6 (0 + x))) 9 k 1 9 j = if j = k then 1 else h 9 j := fun j => by
    by_cases c : j = k
    · rw [if_pos c, c, mu_at]
    · rw [if_neg c, mu_nj c, cpf_o (by decide)]
  generalize mu (cpf h 8 (98 * k) 98 (fun x => h 6 (0 + x))) 9 k 1 = h' at f f8 f9
  refine ⟨RRow_cg H.1 (fun q a b => e q ⟨by omega, by omega, by omega, by omega, by omega, by omega⟩) (f 1 (by decide) (by decide)) (f 2 (by decide) (by decide)), RTxt_cg H.2.1 (fun q a b => e q ⟨by omega, by omega, by omega, by omega, by omega, by omega⟩) (f 4 (by decide) (by decide)) (f 5 (by decide) (by decide)), RFm_cg H.2.2.1 (fun q hq => e q ⟨by omega, by omega, by omega, by omega, by omega, by omega⟩) (f 6 (by decide) (by decide)), fun x a b => ?_, RSc_cg H.2.2.2.2 (e 0 ⟨by omega, by omega, by omega, by omega, by omega, by omega⟩) (e 5 ⟨by omega, by omega, by omega, by omega, by omega, by omega⟩) (f 0 (by decide) (by decide)) (f 10 (by decide) (by decide))⟩
  by_cases hx : x = k
  · subst hx
    have e9 : h' 9 x = 1 := by rw [f9, if_pos rfl]
    have eG : ∀ j, 0 ≤ j → j < 98 → kG h' x j = h 6 j := fun j a b => by
      rw [kG_1 e9]; show h' 8 (98 * x + j) = h 6 j
      rw [f8, if_pos (by omega), show 98 * x + j - 98 * x = j by omega]
    refine ⟨Or.inr e9, FR_F H.I HF eG, FI_F H.I eG, fun _ => ?_⟩
    rw [f8, if_pos (by omega), show 98 * x - 98 * x = 0 by omega]; omega
  · have hk := H.2.2.2.1 x a b
    have e9 : h' 9 x = h 9 x := by rw [f9, if_neg hx]
    have eG : ∀ j, 0 ≤ j → j < 98 → kG h' x j = kG h x j := fun j a b => by
      unfold kG; rw [e9]
      split
      · rfl
      · show h' 8 (98 * x + j) = h 8 (98 * x + j)
        rw [f8, if_neg (by omega)]
    refine ⟨by rw [e9]; exact hk.1, FR_F hk.2.2.1 (FR_cg hk.2.2.1 hk.2.1 (fun q hq => e q ⟨by omega, by omega, by omega, by omega, by omega, by omega⟩)) eG, FI_F hk.2.2.1 eG, fun z => ?_⟩
    rw [f8, if_neg (by omega)]; exact hk.2.2.2 (by rw [← e9]; exact z)
theorem farms_Rel {g g' h : Mm} {E : Int → Int} {p w : Int} (H : Rel g h) (HI : FI E) (h0 : 0 < E 0) (HF : FR g' 0 E) (hk : ∀ k, 0 ≤ k → k < 3 → FR g' (1 + k) (fun _ => 0)) (e : ∀ q, q < 26 → q ≠ 4 → g' q = g q) : Rel g' (fls (cpf (pS h E p w) 6 0 98 E) 9 0 3 0) := by
  have f : ∀ q, q ≠ 0 → q ≠ 6 → q ≠ 7 → q ≠ 9 → fls (cpf (pS h E p w) 6 0 98 E) 9 0 3 0 q = h q := fun q a b c d => by rw [fls_o d, cpf_o b, pS_o a c]
  have f9 : ∀ k, 0 ≤ k → k < 3 → fls (cpf (pS h E p w) 6 0 98 E) 9 0 3 0 9 k = 0 := fun k a b => by unfold fls; rw [if_pos ⟨rfl, a, by omega⟩]
  have f6 : ∀ j, 0 ≤ j → j < 98 → fls (cpf (pS h E p w) 6 0 98 E) 9 0 3 0 6 j = E j := fun j a b => by rw [fls_o (by decide)]; unfold cpf; rw [if_pos ⟨rfl, a, by omega⟩, Int.sub_zero]
  have s := pS_sc (D := E) (p := p) (w := w) H.2.2.2.2
  refine ⟨RRow_cg H.1 (fun q a b => e q (by omega) (by omega)) (f 1 (by decide) (by decide) (by decide) (by decide)) (f 2 (by decide) (by decide) (by decide) (by decide)), RTxt_cg H.2.1 (fun q a b => e q (by omega) (by omega)) (f 4 (by decide) (by decide) (by decide) (by decide)) (f 5 (by decide) (by decide) (by decide) (by decide)), ⟨FR_F HI HF f6, FI_F HI f6, by rw [f6 0 (by decide) (by decide)]; omega⟩, fun k a b => ?_, RSc_cg s (e 0 (by decide) (by decide)) (e 5 (by decide) (by decide)) (by rw [fls_o (by decide), cpf_o (by decide)]) (by rw [fls_o (by decide), cpf_o (by decide)])⟩
  have e9 := f9 k a b
  rw [kG_0 e9]
  exact ⟨Or.inl e9, hk k a b, Z_FI, fun z => by omega⟩
theorem kG_I {g h : Mm} (H : Rel g h) (k : Int) : FI (if 0 ≤ k ∧ k < 3 then kG h k else fun _ => 0) := by
  by_cases z : 0 ≤ k ∧ k < 3
  · rw [if_pos z]; exact (H.G z.1 z.2).2
  · rw [if_neg z]; exact Z_FI
