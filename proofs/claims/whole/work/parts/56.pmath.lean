/-! What the two sides reckon differently. -/
theorem Rel_if {c : Prop} [Decidable c] {g1 g2 h1 h2 : Mm} (h : c → Rel g1 h1) (k : ¬ c → Rel g2 h2) : Rel (if c then g1 else g2) (if c then h1 else h2) := by
  by_cases q : c
  · rw [if_pos q, if_pos q]; exact h q
  · rw [if_neg q, if_neg q]; exact k q
theorem bt_0 {s i : Int} (h0 : 0 ≤ s) (hs : s < pw i) : bt s i = 0 := (bt_hi h0 hs).2
/-- a set of a farm's beasts and the other farm's -/
theorem so_ones {F : Int → Int} (hI : FI F) : sI (bt (so F 0 (F 0))) 24 = F 0 - sI (bt (ow F)) 24 := by
  have hn := hI.n
  have b0 := so_bd F 0 (n := F 0) (by omega)
  have b1 := so_bd F 1 (n := F 0) (by omega)
  have e : sI (fun i => bt (so F 0 (F 0)) i + bt (ow F) i) 24 = sI (fun i => if i < F 0 then 1 else 0) 24 := sI_cg (fun i a b => by
    by_cases hi : i < F 0
    · rw [if_pos hi, so_bt F 0 a hi]
      show _ + bt (so F 1 (F 0)) i = 1
      rw [so_bt F 1 a hi]
      rcases (hI.b a hi).2.2 with h | h <;> rw [h] <;> rfl
    · have hp := pw_le (i := F 0) (j := i) (by omega) (by omega)
      rw [if_neg hi, bt_0 b0.1 (by omega)]
      show 0 + bt (so F 1 (F 0)) i = 0
      rw [bt_0 b1.1 (by omega)]; rfl) (by decide)
  rw [sI_add (by decide)] at e
  have e2 : sI (fun i => if i < F 0 then 1 else 0) 24 = F 0 := by
    rcases (show F 0 = 0 ∨ F 0 = 1 ∨ F 0 = 2 ∨ F 0 = 3 ∨ F 0 = 4 ∨ F 0 = 5 ∨ F 0 = 6 by omega) with h | h | h | h | h | h | h <;> rw [h] <;> decide
  show _ = F 0 - sI (bt (ow F)) 24
  have e3 : sI (fun i => bt (ow F) i) 24 = sI (bt (ow F)) 24 := rfl
  have e4 : sI (fun i => bt (so F 0 (F 0)) i) 24 = sI (bt (so F 0 (F 0))) 24 := rfl
  omega
theorem VB_so {F : Int → Int} (hI : FI F) {b q : Int} (hb : 0 ≤ b) (hb1 : b ≤ 1) : VB F (so F b (F 0)) 1 q = VB F (ow F) b q := by
  have hn := hI.n
  unfold VB
  refine sI_cg (fun i a c => ?_) (by omega)
  show (if bt (so F b (F 0)) i = 1 then _ else _) = if bt (so F 1 (F 0)) i = b then _ else _
  rw [so_bt F b a c, so_bt F 1 a c]
  rcases (hI.b a c).2.2 with h | h <;> rcases (show b = 0 ∨ b = 1 by omega) with rfl | rfl <;> rw [h] <;> rfl
theorem sI_but {h : Int → Int} {i n : Int} (hn : 0 ≤ n) (h0 : 0 ≤ i) (h1 : i < n) : sI h n = sI (fun x => if x = i then 0 else h x) n + h i := by
  have e : sI h n = sI (fun x => (if x = i then 0 else h x) + (if x = i then h i else 0)) n := sI_cg (fun x a b => by
    by_cases hx : x = i
    · rw [if_pos hx, if_pos hx, hx]; omega
    · rw [if_neg hx, if_neg hx]; omega) hn
  rw [e, sI_add hn, sI_one hn h0 h1]
theorem ff_no {p : Int → Bool} : ∀ (n : Nat) (d e : Int), 0 ≤ d → ff p n d = -1 → d ≤ e → e < d + n → ¬ p e = true
  | 0, d, e, _, _, h1, h2 => by omega
  | n + 1, d, e, hd, h, h1, h2 => by
    unfold ff at h
    by_cases hp : p d = true
    · rw [if_pos hp] at h; omega
    · rw [if_neg hp] at h
      by_cases he : e = d
      · rw [he]; exact hp
      · exact ff_no n (d + 1) e (by omega) h (by omega) (by omega)
theorem f_same {F : Int → Int} {d N : Int} (h : ∀ k, d + 1 ≤ k → k < N → ¬ wkP F k = true) : ∀ m : Nat, d + m < N → fOn F (d + m) = fOn F d
  | 0, _ => by rw [show d + ((0 : Nat) : Int) = d by omega]
  | m + 1, hm => by
    have ih := f_same h m (by omega)
    have hk := h (d + (m + 1 : Nat)) (by omega) hm
    have hk : fOn F (d + (m + 1 : Nat)) = fOn F (d + (m + 1 : Nat) - 1) := Classical.byContradiction (fun z => hk (decide_eq_true z))
    rw [hk, show d + ((m + 1 : Nat) : Int) - 1 = d + (m : Int) by omega]; exact ih
theorem cw3_e {F : Int → Int} (hI : FI F) (hT : 0 < F 1) {d : Int} (hd : 0 ≤ d) : (if sI (fun j => if F (6 + j) = fOn F d then 0 else 1) (F 1) = 0 then -9 else 1 - fOn F d) = cw3 F d := by
  have hn := hI.n
  have hp : ∀ e, 0 ≤ e → e < F 1 → 0 ≤ (fun j => if F (6 + j) = fOn F d then (0 : Int) else 1) e := fun e _ _ => by show 0 ≤ if F (6 + e) = fOn F d then (0 : Int) else 1; split <;> omega
  unfold cw3
  rcases ff_r (wkP F) 9 (d + 1) (by omega) with h | ⟨h1, h2, h3⟩
  · rw [if_pos h]
    have hs : sI (fun j => if F (6 + j) = fOn F d then 0 else 1) (F 1) = sI (fun _ => 0) (F 1) := sI_cg (fun j a b => by
      have hm := emd (d := j - d) (n := F 1) hT
      have e := f_same (F := F) (d := d) (N := d + 10) (fun k x y => ff_no 9 (d + 1) k (by omega) h x (by omega)) ((j - d) % F 1).toNat (by omega)
      rw [show (((j - d) % F 1).toNat : Int) = (j - d) % F 1 by omega] at e
      have e2 : fOn F (d + (j - d) % F 1) = F (6 + j) := by
        unfold fOn
        have e3 : (d + (j - d) % F 1) % F 1 = j := by
          rw [Int.add_emod, Int.emod_emod_of_dvd _ (Int.dvd_refl _), ← Int.add_emod, show d + (j - d) = j by omega]; exact Int.emod_eq_of_lt a b
        rw [e3]
      rw [← e2, e, if_pos rfl]) (by omega)
    have hz : sI (fun _ => (0 : Int)) (F 1) = 0 := by
      have := sI_bd (h := fun _ => (0 : Int)) (B := 0) (n := F 1) (fun _ _ _ => ⟨by omega, by omega⟩) (by omega)
      omega
    rw [if_pos (hs.trans hz)]
  · rw [if_neg (show ¬ ff (wkP F) 9 (d + 1) = -1 by omega)]
    generalize hX : ff (wkP F) 9 (d + 1) = X at h1 h2 h3
    have h3 : ¬ fOn F X = fOn F (X - 1) := of_decide_eq_true h3
    have e := f_same (F := F) (d := d) (N := X) (fun k x y => by rw [← hX] at y; exact ff_bf 9 (d + 1) k (by rw [hX]; omega) x y) (X - 1 - d).toNat (by omega)
    rw [show d + ((X - 1 - d).toNat : Int) = X - 1 by omega] at e
    have a1 := fOn01 hI hT X
    have a2 := fOn01 hI hT d
    have hm := emd (d := X) (n := F 1) hT
    rw [if_neg (sI_pos (t := X % F 1) hm.1 hm.2 hp (by
      show 0 < if F (6 + X % F 1) = fOn F d then (0 : Int) else 1
      rw [if_neg (fun z => h3 (by rw [e]; exact z))]; decide))]
    rw [e] at h3
    omega
theorem ld_MM {F : Int → Int} (hI : FI F) (hT : 0 < F 1) {d : Int} (hd : 0 ≤ d) : sI (ld F) (d + 1) = MM F 0 d - MM F 1 d := by
  have e : sI (ld F) (d + 1) = sI (fun x => mf F 0 (0 + x) + -mf F 1 (0 + x)) (d + 1) := sI_cg (fun x _ _ => by
    have := fOn01 hI hT x
    unfold ld mf
    rw [Int.zero_add]
    rcases this with h | h <;> rw [h] <;> simp) (by omega)
  rw [e, sI_add (by omega)]
  have e2 : sI (fun x => -mf F 1 (0 + x)) (d + 1) = -sI (fun x => mf F 1 (0 + x)) (d + 1) := by
    obtain ⟨n, hn⟩ := Int.eq_ofNat_of_zero_le (show 0 ≤ d + 1 by omega)
    rw [hn]
    clear hn e
    induction n with
    | zero => rfl
    | succ n ih => rw [show ((n + 1 : Nat) : Int) = (n : Int) + 1 by omega, sI_s _ (by omega), sI_s _ (by omega), ih]; omega
  rw [e2]
  unfold MM
  rw [Int.sub_zero]; omega
theorem cb_cf {F : Int → Int} (hI : FI F) (hT : 0 < F 1) {d q : Int} (hd : 0 ≤ d) (hq : 0 ≤ q) (hq3 : q ≤ 3) : cb F d q (sI (ld F) (d + 1)) = cf F d q := by
  unfold cb cf
  by_cases q0 : q = 0
  · rw [if_pos q0, if_pos q0]
  · rw [if_neg q0, if_neg q0]
    by_cases q1 : q = 1
    · rw [if_pos q1, if_pos q1]
      congr 1
      by_cases h0 : d = 0
      · rw [if_pos h0, if_neg (by omega)]
      · rw [if_neg h0]; split <;> omega
    · rw [if_neg q1, if_neg q1]
      by_cases q2 : q = 2
      · rw [if_pos q2, if_pos q2, ld_MM hI hT hd]
        by_cases h : MM F 0 d < MM F 1 d
        · rw [if_pos h, if_pos (by omega)]
        · rw [if_neg h, if_neg (by omega)]
      · rw [if_neg q2, if_neg q2]; exact cw3_e hI hT hd
theorem qc_qr {F : Int → Int} (hI : FI F) (hT : 0 < F 1) {d x y : Int} (hd : 0 ≤ d) (hx : 0 ≤ x) (hx3 : x ≤ 3) (hy : 0 ≤ y) (hy3 : y ≤ 3) (n : Nat) : ff (qcP F x y) n d = ff (qrP F x y) n d :=
  ff_cg (fun e a _ => by unfold qcP qrP; rw [cb_cf hI hT (by omega) hx hx3, cb_cf hI hT (by omega) hy hy3])
/-- counts and the digest -/
theorem kG_z {g h : Mm} (H : Rel g h) {k : Int} (h0 : 0 ≤ k) (h1 : k < 3) : (kG h k 0 = 0 ↔ h 9 k = 0) ∧ (¬ h 9 k = 0 → kG h k 4 = h 8 (98 * k + 4)) := by
  have hk := H.2.2.2.1 k h0 h1
  rcases hk.1 with e | e
  · rw [kG_0 e]; exact ⟨⟨fun _ => e, fun _ => rfl⟩, fun z => absurd e z⟩
  · rw [kG_1 e]
    have := hk.2.2.2 e
    refine ⟨⟨fun z => ?_, fun z => by omega⟩, fun _ => rfl⟩
    have z2 : h 8 (98 * k + 0) = 0 := z
    rw [Int.add_zero] at z2; omega
theorem cn_e {g h : Mm} (H : Rel g h) (kk : Int) : cnC g (h 6) (kG h) kk = cn (h 6) (h 1) (h 4) (h 9) kk := by
  rw [cnC_e]
  have e1 : thr (fun t => g (6 + t) 1) 6 = thr (h 1) 6 := sI_cg (fun r a b => by show (if g (6 + r) 1 < 0 then (0 : Int) else 1) = _; rw [H.sz a b]) (by decide)
  have e2 : thr (fun t => g (6 + (6 + t)) 1) 4 = thr (h 4) 4 := sI_cg (fun r a b => by show (if g (6 + (6 + r)) 1 < 0 then (0 : Int) else 1) = _; rw [H.ln a b]) (by decide)
  have e3 : kpt (fun k => if kG h k 0 = 0 then 0 else 1) 3 = kpt (h 9) 3 := sI_cg (fun k a b => by
    have := (kG_z H a b).1
    show (if (if kG h k 0 = 0 then (0 : Int) else 1) = 0 then (0 : Int) else 1) = if h 9 k = 0 then 0 else 1
    by_cases z : h 9 k = 0
    · rw [if_pos (this.mpr z), if_pos z]; rfl
    · rw [if_neg (fun y => z (this.mp y)), if_neg z]; rfl) (by decide)
  unfold cn
  rw [e1, e2, e3]
theorem rf_cg {x : Int} {s s' : Int → Int} {pl pl' : Int → Int → Int} {n : Int} (hn : 0 ≤ n) (hs : ∀ r, 0 ≤ r → r < n → s r = s' r) (hp : ∀ r j, 0 ≤ r → r < n → 0 ≤ j → j < s' r → pl r j = pl' r j) : rf x s pl n = rf x s' pl' n := by
  obtain ⟨m, rfl⟩ := Int.eq_ofNat_of_zero_le hn
  induction m with
  | zero => rfl
  | succ m ih =>
    rw [show ((m + 1 : Nat) : Int) = (m : Int) + 1 by omega, rf_s _ _ _ (by omega), rf_s _ _ _ (by omega), ih (by omega) (fun r a b => hs r a (by omega)) (fun r j a b c d => hp r j a (by omega) c d), hs m (by omega) (by omega)]
    exact hf_cg (fun k a b => hp m k (by omega) (by omega) a b)
theorem dg_e {g h : Mm} (H : Rel g h) : dgC g (h 6) (kG h) = dgM h := by
  unfold dgC dgM
  have e1 : hf 17 (cnC g (h 6) (kG h)) 10 = hf 17 (cn (h 6) (h 1) (h 4) (h 9)) 10 := hf_cg (fun k _ _ => cn_e H k)
  have e2 : ∀ x, hf x (fun k => if kG h k 0 = 0 then -1 else kG h k 4) 3 = hf x (fun k => if h 9 k = 0 then -1 else h 8 (98 * k + 4)) 3 := fun x => hf_cg (fun k a b => by
    have := kG_z H a b
    show (if kG h k 0 = 0 then -1 else kG h k 4) = if h 9 k = 0 then -1 else h 8 (98 * k + 4)
    by_cases z : h 9 k = 0
    · rw [if_pos (this.1.mpr z), if_pos z]
    · rw [if_neg (fun y => z (this.1.mp y)), if_neg z, this.2 z])
  rw [e1, e2, rf_cg (s' := h 1) (pl' := fun r j => h 2 (40 * r + j)) (by decide) (fun r a b => H.sz a b) (fun r j a b c d => H.it a b c d)]
  exact rf_cg (by decide) (fun r a b => H.ln a b) (fun r j a b c d => H.by a b c d)
theorem uV_01 {g : Mm} {F : Int → Int} (HF : FR g 0 F) (HI : FI F) : ∀ c : Nat, (c : Int) ≤ F 4 → uV F (F 4) c 0 = F 0 ∧ uV F (F 4) c 1 = F 1
  | 0, _ => ⟨by unfold uV; rw [fu_ne (by decide)]; rfl, by unfold uV; rw [fu_ne (by decide)]; rfl⟩
  | c + 1, hc => by
    have ih := uV_01 HF HI c (by omega)
    have hn := HI.n
    have E := uV_E (F := F) (dc := F 4) (c := c) (by omega) (by omega) (uV_ok HF HI c (by omega)).1 rfl
    exact ⟨E.1.1.trans ih.1, E.1.2.1.trans ih.2⟩
