/-! What the class's memory g and the reference's memory h have in common. -/
def kG (h : Mm) (k : Int) : Int → Int := if h 9 k = 0 then (fun _ => 0) else fun j => h 8 (98 * k + j)
def RRow (g h : Mm) : Prop := (∀ j, R32 (h 2 j)) ∧ ∀ r, 0 ≤ r → r < 6 → g (6 + r) 1 = h 1 r ∧ (-1 ≤ h 1 r ∧ h 1 r ≤ 40) ∧ (∀ j, R32 (g (16 + r) j)) ∧ ∀ j, 0 ≤ j → j < h 1 r → g (16 + r) j = h 2 (40 * r + j)
def RTxt (g h : Mm) : Prop := (∀ j, -128 ≤ h 5 j ∧ h 5 j ≤ 127) ∧ ∀ t, 0 ≤ t → t < 4 → g (6 + (6 + t)) 1 = h 4 t ∧ (-1 ≤ h 4 t ∧ h 4 t ≤ 60) ∧ (∀ j, -128 ≤ g (16 + (6 + t)) j ∧ g (16 + (6 + t)) j ≤ 127) ∧ ∀ j, 0 ≤ j → j < h 4 t → g (16 + (6 + t)) j = h 5 (60 * t + j)
def RFm (g h : Mm) : Prop := FR g 0 (h 6) ∧ FI (h 6) ∧ (h 6 0 = 0 → h 6 1 = 0)
def RKp (g h : Mm) : Prop := ∀ k, 0 ≤ k → k < 3 → (h 9 k = 0 ∨ h 9 k = 1) ∧ FR g (1 + k) (kG h k) ∧ FI (kG h k) ∧ (h 9 k = 1 → 0 < h 8 (98 * k))
def RSc (g h : Mm) : Prop := (∀ j, 0 ≤ j → j ≤ 5 → g 5 j = h 10 j) ∧ g 0 6 = h 0 10 ∧ g 0 7 = h 0 11 ∧ g 0 8 = h 0 12 ∧ g 0 9 = h 0 13
def Rel (g h : Mm) : Prop := RRow g h ∧ RTxt g h ∧ RFm g h ∧ RKp g h ∧ RSc g h
theorem Rel.F {g h : Mm} (H : Rel g h) : FR g 0 (h 6) := H.2.2.1.1
theorem Rel.I {g h : Mm} (H : Rel g h) : FI (h 6) := H.2.2.1.2.1
theorem Rel.z {g h : Mm} (H : Rel g h) : h 6 0 = 0 → h 6 1 = 0 := H.2.2.1.2.2
theorem Rel.sz {g h : Mm} (H : Rel g h) {r : Int} (h0 : 0 ≤ r) (h1 : r < 6) : g (6 + r) 1 = h 1 r := (H.1.2 r h0 h1).1
theorem Rel.it {g h : Mm} (H : Rel g h) {r : Int} (h0 : 0 ≤ r) (h1 : r < 6) {j : Int} (j0 : 0 ≤ j) (j1 : j < h 1 r) : g (16 + r) j = h 2 (40 * r + j) := (H.1.2 r h0 h1).2.2.2 j j0 j1
theorem Rel.ln {g h : Mm} (H : Rel g h) {t : Int} (h0 : 0 ≤ t) (h1 : t < 4) : g (6 + (6 + t)) 1 = h 4 t := (H.2.1.2 t h0 h1).1
theorem Rel.by {g h : Mm} (H : Rel g h) {t : Int} (h0 : 0 ≤ t) (h1 : t < 4) {j : Int} (j0 : 0 ≤ j) (j1 : j < h 4 t) : g (16 + (6 + t)) j = h 5 (60 * t + j) := (H.2.1.2 t h0 h1).2.2.2 j j0 j1
theorem Rel.C {g h : Mm} (H : Rel g h) : CI g := by
  refine ⟨fun r a b => ?_, fun t a b => ?_, fun r j a b => (H.1.2 r a b).2.2.1 j, fun t j a b => (H.2.1.2 t a b).2.2.1 j⟩
  · rw [H.sz a b]; exact (H.1.2 r a b).2.1
  · rw [H.ln a b]; exact (H.2.1.2 t a b).2.1
theorem kG_1 {h : Mm} {k : Int} (e : h 9 k = 1) : kG h k = fun j => h 8 (98 * k + j) := by unfold kG; rw [if_neg (by omega)]
theorem kG_0 {h : Mm} {k : Int} (e : h 9 k = 0) : kG h k = fun _ => 0 := by unfold kG; rw [if_pos e]
theorem Rel.M {g h : Mm} (H : Rel g h) : MI h := by
  refine ⟨fun r a b => (H.1.2 r a b).2.1, fun t a b => (H.2.1.2 t a b).2.1, H.1.1, H.2.1.1, fun k a b => (H.2.2.2.1 k a b).1, H.I, fun k a b e => ?_⟩
  have := H.2.2.2.1 k a b
  exact ⟨by rw [← kG_1 e]; exact this.2.2.1, this.2.2.2 e⟩
theorem Rel.G {g h : Mm} (H : Rel g h) {k : Int} (h0 : 0 ≤ k) (h1 : k < 3) : FR g (1 + k) (kG h k) ∧ FI (kG h k) := ⟨(H.2.2.2.1 k h0 h1).2.1, (H.2.2.2.1 k h0 h1).2.2.1⟩
/-- congruence, piece by piece -/
theorem FR_cg {g g' : Mm} {f : Int} {F : Int → Int} (hI : FI F) (H : FR g f F) (e : ∀ q, (q = 26 + f ∨ q = 31 + f ∨ q = 36 + f ∨ q = 46 + f ∨ q = 51 + f ∨ (56 + 6 * f ≤ q ∧ q < 62 + 6 * f)) → g' q = g q) : FR g' f F := by
  have hn := hI.n
  refine ⟨?_, fun j a b => ?_, fun j a b => ?_, fun i a b => ?_, fun k a b => ?_⟩
  · rw [e (26 + f) (by omega)]; exact H.1
  · rw [e (31 + f) (by omega)]; exact H.2.1 j a b
  · rw [e (36 + f) (by omega)]; exact H.2.2.1 j a b
  · rw [e (56 + 6 * f + i) (by omega)]; exact H.2.2.2.1 i a b
  · rw [e (46 + f) (by omega), e (51 + f) (by omega)]; exact H.2.2.2.2 k a b
theorem FR_F {g : Mm} {f : Int} {F F' : Int → Int} (hI : FI F) (H : FR g f F) (e : ∀ j, 0 ≤ j → j < 98 → F' j = F j) : FR g f F' := by
  have hn := hI.n
  refine ⟨?_, fun j a b => ?_, fun j a b => ?_, fun i a b => ?_, fun k a b => ?_⟩
  · rw [e 0 (by decide) (by decide), e 1 (by decide) (by decide), e 2 (by decide) (by decide), e 3 (by decide) (by decide), e 4 (by decide) (by decide), e 5 (by decide) (by decide)]; exact H.1
  · rw [e 1 (by decide) (by decide)] at b; rw [e (6 + j) (by omega) (by omega)]; exact H.2.1 j a b
  · rw [e 2 (by decide) (by decide)] at b; rw [e (14 + j) (by omega) (by omega)]; exact H.2.2.1 j a b
  · rw [e 0 (by decide) (by decide)] at b; rw [e (20 + 3 * i) (by omega) (by omega), e (20 + 3 * i + 1) (by omega) (by omega), e (20 + 3 * i + 2) (by omega) (by omega)]; exact H.2.2.2.1 i a b
  · rw [e 4 (by decide) (by decide)] at b; rw [e (38 + k) (by omega) (by omega)]; exact H.2.2.2.2 k a b
theorem FI_F {F F' : Int → Int} (H : FI F) (e : ∀ j, 0 ≤ j → j < 98 → F' j = F j) : FI F' := by
  have hn := H.n
  have e0 := e 0 (by decide) (by decide)
  have e1 := e 1 (by decide) (by decide)
  have e2 := e 2 (by decide) (by decide)
  have e4 := e 4 (by decide) (by decide)
  refine ⟨by rw [e0, e1, e2, e4]; exact H.1, fun j a b => ?_, fun j a b => ?_, fun i a b => ?_, fun k a b => ?_, ?_, ?_, ?_, ?_⟩
  · rw [e1] at b; rw [e (6 + j) (by omega) (by omega)]; exact H.t a b
  · rw [e2] at b; rw [e (14 + j) (by omega) (by omega)]; exact H.m a b
  · rw [e0] at b; rw [e (20 + 3 * i) (by omega) (by omega), e (20 + 3 * i + 1) (by omega) (by omega), e (20 + 3 * i + 2) (by omega) (by omega)]; exact H.b a b
  · rw [e4] at b; rw [e0, e (38 + k) (by omega) (by omega)]; exact H.d a b
  · rw [e 3 (by decide) (by decide), e4, dSum_cg (F' := F) (fun k a b => e (38 + k) (by omega) (by omega))]; exact H.2.2.2.2.2.1
  · rw [e 5 (by decide) (by decide), e4, dSum_cg (F' := F) (fun k a b => e (38 + k) (by omega) (by omega))]; exact H.2.2.2.2.2.2.1
  · rw [e 3 (by decide) (by decide)]; exact H.2.2.2.2.2.2.2.1
  · rw [e0, e4]; exact H.z
theorem RRow_cg {g g' h h' : Mm} (H : RRow g h) (e : ∀ q, 6 ≤ q → q < 26 → g' q = g q) (e1 : h' 1 = h 1) (e2 : h' 2 = h 2) : RRow g' h' := by
  refine ⟨by rw [e2]; exact H.1, fun r a b => ?_⟩
  rw [e (6 + r) (by omega) (by omega), e (16 + r) (by omega) (by omega), e1, e2]
  exact H.2 r a b
theorem RTxt_cg {g g' h h' : Mm} (H : RTxt g h) (e : ∀ q, 6 ≤ q → q < 26 → g' q = g q) (e1 : h' 4 = h 4) (e2 : h' 5 = h 5) : RTxt g' h' := by
  refine ⟨by rw [e2]; exact H.1, fun r a b => ?_⟩
  rw [e (6 + (6 + r)) (by omega) (by omega), e (16 + (6 + r)) (by omega) (by omega), e1, e2]
  exact H.2 r a b
theorem RRow_cg2 {g g' h h' : Mm} (H : RRow g h) (e : ∀ r, 0 ≤ r → r < 6 → g' (6 + r) = g (6 + r) ∧ g' (16 + r) = g (16 + r)) (e1 : h' 1 = h 1) (e2 : h' 2 = h 2) : RRow g' h' := by
  refine ⟨by rw [e2]; exact H.1, fun r a b => ?_⟩
  rw [(e r a b).1, (e r a b).2, e1, e2]
  exact H.2 r a b
theorem RTxt_cg2 {g g' h h' : Mm} (H : RTxt g h) (e : ∀ t, 0 ≤ t → t < 4 → g' (6 + (6 + t)) = g (6 + (6 + t)) ∧ g' (16 + (6 + t)) = g (16 + (6 + t))) (e1 : h' 4 = h 4) (e2 : h' 5 = h 5) : RTxt g' h' := by
  refine ⟨by rw [e2]; exact H.1, fun r a b => ?_⟩
  rw [(e r a b).1, (e r a b).2, e1, e2]
  exact H.2 r a b
/-- the farms' places of the class -/
abbrev pF (f q : Int) : Prop := q = 26 + f ∨ q = 31 + f ∨ q = 36 + f ∨ q = 46 + f ∨ q = 51 + f ∨ (56 + 6 * f ≤ q ∧ q < 62 + 6 * f)
theorem RFm_cg {g g' h h' : Mm} (H : RFm g h) (e : ∀ q, pF 0 q → g' q = g q) (e1 : h' 6 = h 6) : RFm g' h' := by
  unfold RFm
  rw [e1]
  exact ⟨FR_cg H.2.1 H.1 e, H.2⟩
theorem RKp_cg {g g' h h' : Mm} (H : RKp g h) (e : ∀ f q, 1 ≤ f → f < 4 → pF f q → g' q = g q) (e1 : h' 8 = h 8) (e2 : h' 9 = h 9) : RKp g' h' := by
  intro k a b
  have hk : kG h' k = kG h k := by unfold kG; rw [e1, e2]
  have := H k a b
  rw [hk, e1, e2]
  exact ⟨this.1, FR_cg this.2.2.1 this.2.1 (fun q hq => e (1 + k) q (by omega) (by omega) hq), this.2.2⟩
/-- only numbers told have changed -/
theorem Rel_sc {g g' h h' : Mm} (H : Rel g h) (e : ∀ q, (6 ≤ q ∧ q < 30) ∨ (31 ≤ q ∧ q < 35) ∨ (36 ≤ q ∧ q < 40) ∨ (46 ≤ q ∧ q < 50) ∨ (51 ≤ q ∧ q < 55) ∨ (56 ≤ q ∧ q < 80) → g' q = g q) (e2 : ∀ q, q = 1 ∨ q = 2 ∨ q = 4 ∨ q = 5 ∨ q = 6 ∨ q = 8 ∨ q = 9 → h' q = h q) (hs : RSc g' h') : Rel g' h' :=
  ⟨RRow_cg H.1 (fun q a b => e q (by omega)) (e2 1 (by decide)) (e2 2 (by decide)), RTxt_cg H.2.1 (fun q a b => e q (by omega)) (e2 4 (by decide)) (e2 5 (by decide)), RFm_cg H.2.2.1 (fun q hq => e q (by omega)) (e2 6 (by decide)), RKp_cg H.2.2.2.1 (fun f q a b hq => e q (by omega)) (e2 8 (by decide)) (e2 9 (by decide)), hs⟩
theorem Rel_fn {g h : Mm} (H : Rel g h) {w : Int} (h0 : 0 ≤ w) (h5 : w ≤ 5) : Rel (fnC g w) (fnM h w) := by
  have hs := H.2.2.2.2
  refine Rel_sc H (fun q hq => ?_) (fun q hq => ?_) ⟨fun j a b => ?_, ?_, ?_, ?_, ?_⟩
  · unfold fnC; rw [mu_ne (by omega), mu_ne (by omega)]
  · unfold fnM; rw [mu_ne (by omega), mu_ne (by omega)]
  · unfold fnC fnM
    by_cases hj : j = w
    · rw [hj, mu_at, mu_at, hs.1 w h0 h5]
    · rw [mu_nj hj, mu_nj hj, mu_ne (by decide), mu_ne (by decide)]; exact hs.1 j a b
  · unfold fnC fnM mu; simp
  · unfold fnC fnM mu; simp; exact hs.2.2.1
  · unfold fnC fnM mu; simp; exact hs.2.2.2.1
  · unfold fnC fnM mu; simp; exact hs.2.2.2.2
theorem Rel_as {g h : Mm} (H : Rel g h) (v : Int) : Rel (mu g 0 7 v) (mu h 0 11 v) := by
  have hs := H.2.2.2.2
  refine Rel_sc H (fun q hq => mu_ne (by omega)) (fun q hq => mu_ne (by omega)) ⟨fun j a b => ?_, ?_, ?_, ?_, ?_⟩
  · rw [mu_ne (by decide), mu_ne (by decide)]; exact hs.1 j a b
  · rw [mu_nj (by decide), mu_nj (by decide)]; exact hs.2.1
  · rw [mu_at, mu_at]
  · rw [mu_nj (by decide), mu_nj (by decide)]; exact hs.2.2.2.1
  · rw [mu_nj (by decide), mu_nj (by decide)]; exact hs.2.2.2.2
theorem Rel_pt {g h : Mm} (H : Rel g h) (x y : Int) : Rel (mu (mu g 0 8 x) 0 9 y) (mu (mu h 0 12 x) 0 13 y) := by
  have hs := H.2.2.2.2
  refine Rel_sc H (fun q hq => ?_) (fun q hq => ?_) ⟨fun j a b => ?_, ?_, ?_, ?_, ?_⟩
  · rw [mu_ne (by omega), mu_ne (by omega)]
  · rw [mu_ne (by omega), mu_ne (by omega)]
  · rw [mu_ne (by decide), mu_ne (by decide), mu_ne (by decide), mu_ne (by decide)]; exact hs.1 j a b
  · rw [mu_nj (by decide), mu_nj (by decide), mu_nj (by decide), mu_nj (by decide)]; exact hs.2.1
  · rw [mu_nj (by decide), mu_nj (by decide), mu_nj (by decide), mu_nj (by decide)]; exact hs.2.2.1
  · unfold mu; simp
  · rw [mu_at, mu_at]
theorem RSc_cg {g g' h h' : Mm} (H : RSc g h) (e0 : g' 0 = g 0) (e5 : g' 5 = g 5) (f0 : h' 0 = h 0) (f1 : h' 10 = h 10) : RSc g' h' := by
  unfold RSc; rw [e0, e5, f0, f1]; exact H
/-- only the farms have changed -/
theorem Rel_fm {g g' h : Mm} {F : Int → Int} (H : Rel g h) (e : ∀ q, oF 0 q → g' q = g q) (HF : FR g' 0 F) (HI : FI F) (hz : F 0 = 0 → F 1 = 0) : Rel g' (ru h 6 F) := by
  refine ⟨RRow_cg H.1 (fun q a b => e q ⟨by omega, by omega, by omega, by omega, by omega, by omega⟩) (ru_ne (by decide)) (ru_ne (by decide)), RTxt_cg H.2.1 (fun q a b => e q ⟨by omega, by omega, by omega, by omega, by omega, by omega⟩) (ru_ne (by decide)) (ru_ne (by decide)), ?_, RKp_cg H.2.2.2.1 (fun f q a b hq => e q ⟨by omega, by omega, by omega, by omega, by omega, by omega⟩) (ru_ne (by decide)) (ru_ne (by decide)), RSc_cg H.2.2.2.2 (e 0 ⟨by decide, by decide, by decide, by decide, by decide, by decide⟩) (e 5 ⟨by decide, by decide, by decide, by decide, by decide, by decide⟩) (ru_ne (by decide)) (ru_ne (by decide))⟩
  unfold RFm; rw [ru_at]; exact ⟨HF, HI, hz⟩
/-- only one row has changed -/
theorem Rel_rw {g g' h h' : Mm} {r : Int} (H : Rel g h) (h0 : 0 ≤ r) (h1 : r < 6) (e : ∀ q, q ≠ 6 + r → q ≠ 16 + r → g' q = g q) (f : ∀ q, q ≠ 1 → q ≠ 2 → q ≠ 3 → h' q = h q) (f1 : ∀ j, j ≠ r → h' 1 j = h 1 j) (f2 : ∀ j, (j < 40 * r ∨ 40 * r + 40 ≤ j) → h' 2 j = h 2 j)
    (hR : ∀ j, R32 (h' 2 j)) (hr : g' (6 + r) 1 = h' 1 r ∧ (-1 ≤ h' 1 r ∧ h' 1 r ≤ 40) ∧ (∀ j, R32 (g' (16 + r) j)) ∧ ∀ j, 0 ≤ j → j < h' 1 r → g' (16 + r) j = h' 2 (40 * r + j)) : Rel g' h' := by
  refine ⟨⟨hR, fun x a b => ?_⟩, RTxt_cg2 H.2.1 (fun t a b => ⟨e _ (by omega) (by omega), e _ (by omega) (by omega)⟩) (f 4 (by decide) (by decide) (by decide)) (f 5 (by decide) (by decide) (by decide)), RFm_cg H.2.2.1 (fun q hq => e q (by omega) (by omega)) (f 6 (by decide) (by decide) (by decide)), RKp_cg H.2.2.2.1 (fun k q a b hq => e q (by omega) (by omega)) (f 8 (by decide) (by decide) (by decide)) (f 9 (by decide) (by decide) (by decide)), RSc_cg H.2.2.2.2 (e 0 (by omega) (by omega)) (e 5 (by omega) (by omega)) (f 0 (by decide) (by decide) (by decide)) (f 10 (by decide) (by decide) (by decide))⟩
  by_cases hx : x = r
  · rw [hx]; exact hr
  · rw [e (6 + x) (by omega) (by omega), e (16 + x) (by omega) (by omega), f1 x hx]
    have := H.1.2 x a b
    exact ⟨this.1, this.2.1, this.2.2.1, fun j j0 j1 => by rw [f2 (40 * x + j) (by omega)]; exact this.2.2.2 j j0 j1⟩
/-- only one text has changed -/
theorem Rel_tx {g g' h h' : Mm} {r : Int} (H : Rel g h) (h0 : 0 ≤ r) (h1 : r < 4) (e : ∀ q, q ≠ 6 + (6 + r) → q ≠ 16 + (6 + r) → g' q = g q) (f : ∀ q, q ≠ 4 → q ≠ 5 → h' q = h q) (f1 : ∀ j, j ≠ r → h' 4 j = h 4 j) (f2 : ∀ j, (j < 60 * r ∨ 60 * r + 60 ≤ j) → h' 5 j = h 5 j)
    (hR : ∀ j, -128 ≤ h' 5 j ∧ h' 5 j ≤ 127) (hr : g' (6 + (6 + r)) 1 = h' 4 r ∧ (-1 ≤ h' 4 r ∧ h' 4 r ≤ 60) ∧ (∀ j, -128 ≤ g' (16 + (6 + r)) j ∧ g' (16 + (6 + r)) j ≤ 127) ∧ ∀ j, 0 ≤ j → j < h' 4 r → g' (16 + (6 + r)) j = h' 5 (60 * r + j)) : Rel g' h' := by
  refine ⟨RRow_cg2 H.1 (fun t a b => ⟨e _ (by omega) (by omega), e _ (by omega) (by omega)⟩) (f 1 (by decide) (by decide)) (f 2 (by decide) (by decide)), ⟨hR, fun x a b => ?_⟩, RFm_cg H.2.2.1 (fun q hq => e q (by omega) (by omega)) (f 6 (by decide) (by decide)), RKp_cg H.2.2.2.1 (fun k q a b hq => e q (by omega) (by omega)) (f 8 (by decide) (by decide)) (f 9 (by decide) (by decide)), RSc_cg H.2.2.2.2 (e 0 (by omega) (by omega)) (e 5 (by omega) (by omega)) (f 0 (by decide) (by decide)) (f 10 (by decide) (by decide))⟩
  by_cases hx : x = r
  · rw [hx]; exact hr
  · rw [e (6 + (6 + x)) (by omega) (by omega), e (16 + (6 + x)) (by omega) (by omega), f1 x hx]
    have := H.2.1.2 x a b
    exact ⟨this.1, this.2.1, this.2.2.1, fun j j0 j1 => by rw [f2 (60 * x + j) (by omega)]; exact this.2.2.2 j j0 j1⟩
/-- contracts, with less said behind -/
theorem Ci_mono {M : Type} {l : Launch} {yn : MethodName} {ws : List Cond} {rm : Room} {D : va_G} {yc : Nat → ClassId} {t1 t2 : Nat} {A : Nat → Prop} {ww : M → va_W} {av : List Value} {g : M} {post post' : Int32 → M → Prop} (h : Ci l yn ws rm D yc t1 t2 A ww av g post) (e : ∀ r g', post r g' → post' r g') : Ci l yn ws rm D yc t1 t2 A ww av g post' := by
  unfold Ci Met at h ⊢
  refine Jvm.Free.MetFree.mono h (fun _ _ p => p) (fun _ _ _ _ _ k => k) ?_
  intro a s o t _ q
  obtain ⟨⟨⟨r, u, h1, h2, h3⟩, h4⟩, h5⟩ := q
  exact ⟨⟨⟨r, u, h1, e r u h2, h3⟩, h4⟩, h5⟩
theorem Cl_mono {M : Type} {l : Launch} {yn : MethodName} {ws : List Cond} {rm : Room} {D : va_G} {yc : Nat → ClassId} {t1 t2 : Nat} {A : Nat → Prop} {ww : M → va_W} {av : List Value} {g : M} {post post' : Int64 → M → Prop} (h : Cl l yn ws rm D yc t1 t2 A ww av g post) (e : ∀ r g', post r g' → post' r g') : Cl l yn ws rm D yc t1 t2 A ww av g post' := by
  unfold Cl Met at h ⊢
  refine Jvm.Free.MetFree.mono h (fun _ _ p => p) (fun _ _ _ _ _ k => k) ?_
  intro a s o t _ q
  obtain ⟨⟨⟨r, u, h1, h2, h3⟩, h4⟩, h5⟩ := q
  exact ⟨⟨⟨r, u, h1, e r u h2, h3⟩, h4⟩, h5⟩
/-- both answer alike, and what they have in common stays -/
def PI (l : Launch) (D : va_G) (yc : Nat → ClassId) (t1 t2 : Nat) (a b : Int → Nat) (A B : Nat → Prop) (yC : MethodName) (wsC : List Cond) (rmC : Room) (yM : MethodName) (wsM : List Cond) (rmM : Room) (avC avM : List Value) (g h : Mm) : Prop :=
  ∃ (r : Int32) (h' : Mm), Ci l yC wsC rmC D yc t1 t2 A (cw a yc) avC g (fun r9 g9 => r9 = r ∧ Rel g9 h') ∧ Ci l yM wsM rmM D yc t1 t2 B (mw b yc) avM h (fun r9 h9 => r9 = r ∧ h9 = h')
def PL (l : Launch) (D : va_G) (yc : Nat → ClassId) (t1 t2 : Nat) (a b : Int → Nat) (A B : Nat → Prop) (yC : MethodName) (wsC : List Cond) (rmC : Room) (yM : MethodName) (wsM : List Cond) (rmM : Room) (avC avM : List Value) (g h : Mm) : Prop :=
  ∃ (r : Int64) (h' : Mm), Cl l yC wsC rmC D yc t1 t2 A (cw a yc) avC g (fun r9 g9 => r9 = r ∧ Rel g9 h') ∧ Cl l yM wsM rmM D yc t1 t2 B (mw b yc) avM h (fun r9 h9 => r9 = r ∧ h9 = h')
