/-! The books of both sides. -/
theorem bk_e {g h : Mm} (H : Rel g h) {r : Int} (h0 : 0 ≤ r) (h1 : r < 6) {k : Int} (k0 : 0 ≤ k) (k1 : k < h 1 r / 2) : cbD g r k = bkD h r k ∧ cbF g r k = bkF h r k := by
  unfold cbD cbF bkD bkF
  exact ⟨by rw [H.it h0 h1 (by omega) (by omega)], by rw [H.it h0 h1 (by omega) (by omega)]; congr 1; omega⟩
theorem wr_e {g h : Mm} (H : Rel g h) {r : Int} (h0 : 0 ≤ r) (h1 : r < 6) : cwr g r = wrg h r := by
  unfold cwr wrg
  rw [H.sz h0 h1]
  by_cases c : h 1 r < 0
  · rw [if_pos c, if_pos c]
  · rw [if_neg c, if_neg c]
    have e : sI (cbW g r) (h 1 r / 2) = sI (bkW h r) (h 1 r / 2) := sI_cg (fun k a b => by
      have := bk_e H h0 h1 a b
      unfold cbW bkW; rw [this.1, this.2]) (by omega)
    rw [e]
theorem tb_cg {D D' E E' : Int → Int} {n q : Int} : ∀ N : Nat, (∀ k, 0 ≤ k → k < (N : Int) → D k = D' k ∧ E k = E' k) → tb D E n q N = tb D' E' n q N
  | 0, _ => rfl
  | N + 1, h => by
    show (if E (N : Int) = q then or2 (tb D E n q N) (pw (D (N : Int) % n)) else tb D E n q N) = (if E' (N : Int) = q then or2 (tb D' E' n q N) (pw (D' (N : Int) % n)) else tb D' E' n q N)
    have := h (N : Int) (by omega) (by omega)
    rw [tb_cg N (fun k a b => h k a (by omega)), this.1, this.2]
theorem sI_cut {x n : Int} (h0 : 0 ≤ x) (hx : x < pw n) (hn : 0 ≤ n) (hn8 : n ≤ 8) : sI (bt x) 24 = sI (bt x) n := by
  have e := sI_app (h := bt x) (m := n) (k := 24 - n) hn (by omega)
  rw [show n + (24 - n) = 24 by omega] at e
  have z : sI (fun s => bt x (s + n)) (24 - n) = 0 := (sI_0i (by omega) (fun e _ _ => by have := bt01 x (e + n); omega)).mpr (fun e a b => bt_big h0 hx hn (by omega))
  omega
section BK
variable {h : Mm} {r n : Int}
/-- which turns must be 0, which 1 -/
abbrev zS (h : Mm) (r n : Int) : Int := tb (bkD h r) (bkF h r) n 0 (h 1 r / 2).toNat
abbrev oS (h : Mm) (r n : Int) : Int := tb (bkD h r) (bkF h r) n 1 (h 1 r / 2).toNat
theorem ft_iff (hW : wrg h r = 0) (hn : 1 ≤ n) (s : Int) : ftP h r n s ↔ ∀ j, 0 ≤ j → j < n → (bt (oS h r n) j = 1 → bt s j = 1) ∧ (bt (zS h r n) j = 1 → bt s j = 0) := by
  have hz := wrg_z hW
  unfold ftP
  rw [sI_0i (by omega) (fun e _ _ => (ftS_01 h r n s e).1)]
  constructor
  · intro hk j j0 j1
    have key : ∀ k, 0 ≤ k → k < h 1 r / 2 → bt s (bkD h r k % n) = bkF h r k := fun k a b => by
      have := hk k a b
      unfold ftS at this
      split at this
      · assumption
      · omega
    constructor
    · intro ho
      obtain ⟨k, a, b, c, d⟩ := (tb_bt (bkD h r) (bkF h r) (q := 1) hn j0 _).mp ho
      have := key k a (by omega)
      rw [d, c] at this; exact this
    · intro ho
      obtain ⟨k, a, b, c, d⟩ := (tb_bt (bkD h r) (bkF h r) (q := 0) hn j0 _).mp ho
      have := key k a (by omega)
      rw [d, c] at this; exact this
  · intro hj k a b
    have hm := emd (d := bkD h r k) (n := n) (by omega)
    have ok := bk_ok hW a b
    have := hj (bkD h r k % n) hm.1 hm.2
    unfold ftS
    rw [if_pos]
    rcases (show bkF h r k = 0 ∨ bkF h r k = 1 by omega) with e | e
    · rw [e]; exact this.2 ((tb_bt (bkD h r) (bkF h r) (q := 0) hn hm.1 _).mpr ⟨k, a, by omega, e, rfl⟩)
    · rw [e]; exact this.1 ((tb_bt (bkD h r) (bkF h r) (q := 1) hn hm.1 _).mpr ⟨k, a, by omega, e, rfl⟩)
theorem ft_bd (hW : wrg h r = 0) (hn : 1 ≤ n) (s : Int) : ftP h r n s ↔ sI (bd (bt (zS h r n)) (bt (oS h r n)) s) n = 0 := by
  rw [ft_iff hW hn, sI_0i (by omega) (fun e _ _ => (bd_01 _ _ s e).1)]
  constructor
  · intro hj j a b
    have := hj j a b
    unfold bd
    rw [if_neg]
    rintro (⟨x, y⟩ | ⟨x, y⟩)
    · have := this.1 x; omega
    · have := this.2 x; omega
  · intro hj j a b
    have := hj j a b
    unfold bd at this
    have hb := bt01 s j
    split at this
    · omega
    · rename_i z
      exact ⟨fun x => Classical.byContradiction (fun y => z (Or.inl ⟨x, by omega⟩)), fun x => Classical.byContradiction (fun y => z (Or.inr ⟨x, by omega⟩))⟩
theorem ft_cN (hW : wrg h r = 0) (hn : 1 ≤ n) : ftN h r n (pw n) = cN (bt (zS h r n)) (bt (oS h r n)) n := by
  unfold ftN cN
  refine sI_cg (fun s a b => ?_) (by have := pw_pos n; omega)
  by_cases c : ftP h r n s
  · rw [if_pos c, if_pos ((ft_bd hW hn s).mp c)]
  · rw [if_neg c, if_neg (fun z => c ((ft_bd hW hn s).mpr z))]
theorem zo_bd (hn : 1 ≤ n) : (0 ≤ zS h r n ∧ zS h r n < pw n) ∧ (0 ≤ oS h r n ∧ oS h r n < pw n) := ⟨tb_bd _ _ hn _, tb_bd _ _ hn _⟩
/-- a turn told to be both's: nothing fits -/
theorem ft_cl (hW : wrg h r = 0) (hn : 1 ≤ n) (hc : ¬ ad (zS h r n) (oS h r n) = 0) : ∃ j, 0 ≤ j ∧ j < n ∧ bt (zS h r n) j = 1 ∧ bt (oS h r n) j = 1 := by
  have hb := zo_bd (h := h) (r := r) hn
  refine Classical.byContradiction (fun z => hc ((ad_0 hb.1.1 hb.2.1).mpr (fun j j0 y => z ⟨j, j0, ?_, y⟩)))
  refine Classical.byContradiction (fun w => ?_)
  have := bt_big hb.1.1 hb.1.2 (by omega) (show n ≤ j by omega)
  omega
theorem ft_no (hW : wrg h r = 0) (hn : 1 ≤ n) (hc : ¬ ad (zS h r n) (oS h r n) = 0) (s : Int) : ¬ ftP h r n s := by
  obtain ⟨j, a, b, c, d⟩ := ft_cl hW hn hc
  intro z
  have := (ft_iff hW hn s).mp z j a b
  have h1 := this.1 d
  have h2 := this.2 c
  omega
theorem ft_o (hW : wrg h r = 0) (hn : 1 ≤ n) (hc : ad (zS h r n) (oS h r n) = 0) : ftP h r n (oS h r n) := by
  have hb := zo_bd (h := h) (r := r) hn
  refine (ft_iff hW hn _).mpr (fun j a b => ⟨fun x => x, fun x => ?_⟩)
  have := (ad_0 hb.1.1 hb.2.1).mp hc j a
  have := bt01 (oS h r n) j
  exact Classical.byContradiction (fun z => (ad_0 hb.1.1 hb.2.1).mp hc j a ⟨x, by omega⟩)
theorem ft_1 (hW : wrg h r = 0) (hn : 1 ≤ n) (hc : ad (zS h r n) (oS h r n) = 0) : ft1 h r n (pw n).toNat = oS h r n := by
  have hb := zo_bd (h := h) (r := r) hn
  refine ft1_is hb.2.1 (ft_o hW hn hc) (fun s a b z => ?_) _ (by omega)
  have := bits_le (x := oS h r n) (y := s) (n := n.toNat) hb.2.1 a (by rw [show ((n.toNat : Nat) : Int) = n by omega]; exact hb.2.2) (by rw [show ((n.toNat : Nat) : Int) = n by omega]; omega) (fun j x y w => ((ft_iff hW hn s).mp z j x (by omega)).1 w)
  omega
theorem ft_cnt (hW : wrg h r = 0) (hn : 1 ≤ n) (hn8 : n ≤ 8) (hc : ad (zS h r n) (oS h r n) = 0) : ftN h r n (pw n) = pw (n - sI (bt (or2 (zS h r n) (oS h r n))) 24) := by
  have hb := zo_bd (h := h) (r := r) hn
  have ho := or2_bd (n := n) hb.1.1 hb.2.1 (by omega) hb.1.2 hb.2.2
  have e := ((cN_v (z := bt (zS h r n)) (o := bt (oS h r n)) n.toNat).2 (fun j a b => (ad_0 hb.1.1 hb.2.1).mp hc j a)).1
  rw [show ((n.toNat : Nat) : Int) = n by omega] at e
  rw [ft_cN hW hn, e, sI_cut ho.1 ho.2 (by omega) hn8]
  congr 2
  refine sI_cg (fun j a b => ?_) (by omega)
  have := bt_or (x := zS h r n) (y := oS h r n) hb.1.1 hb.2.1 a
  have h01 := bt01 (or2 (zS h r n) (oS h r n)) j
  by_cases c : bt (zS h r n) j = 1 ∨ bt (oS h r n) j = 1
  · rw [if_pos c, this.mpr c]
  · rw [if_neg c]
    have : ¬ bt (or2 (zS h r n) (oS h r n)) j = 1 := fun z => c (this.mp z)
    omega
theorem ft0_z {d b : Int} : ft0 h r n d b (pw n) = 0 ↔ ∀ s, 0 ≤ s → s < pw n → ¬ (ftP h r n s ∧ bt s (d % n) = b) := by
  unfold ft0
  rw [sI_0i (by have := pw_pos n; omega) (fun e _ _ => by split <;> omega)]
  constructor
  · intro H s x y z
    have := H s x y
    rw [if_pos z] at this; omega
  · intro H s x y
    rw [if_neg (H s x y)]
theorem sure_e (hW : wrg h r = 0) (hn : 1 ≤ n) (hn8 : n ≤ 8) (d : Int) : (if ¬ ad (zS h r n) (oS h r n) = 0 ∨ ad (or2 (zS h r n) (oS h r n)) (pw (d % n)) = 0 then -9 else if ¬ ad (oS h r n) (pw (d % n)) = 0 then 1 else 0) = if ¬ ft0 h r n d 0 (pw n) = 0 ∧ ft0 h r n d 1 (pw n) = 0 then 0 else if ft0 h r n d 0 (pw n) = 0 ∧ ¬ ft0 h r n d 1 (pw n) = 0 then 1 else (-9 : Int) := by
  have hb := zo_bd (h := h) (r := r) hn
  have hm := emd (d := d) (n := n) (by omega)
  have ho := or2_bd (n := n) hb.1.1 hb.2.1 (by omega) hb.1.2 hb.2.2
  have hpm := pw_pos (d % n)
  have sgl : ∀ x, 0 ≤ x → (ad x (pw (d % n)) = 0 ↔ ¬ bt x (d % n) = 1) := fun x hx => by
    rw [ad_0 hx (by omega)]
    constructor
    · intro H z; exact H _ hm.1 ⟨z, (bt_pw hm.1 hm.1).mpr rfl⟩
    · intro H j j0 z
      have := (bt_pw hm.1 j0).mp z.2
      rw [this] at z; exact H z.1
  have f0 := fun b => ft0_z (h := h) (r := r) (n := n) (d := d) (b := b)
  have hor := bt_or (x := zS h r n) (y := oS h r n) hb.1.1 hb.2.1 hm.1
  by_cases hc : ad (zS h r n) (oS h r n) = 0
  · have fo := ft_o hW hn hc
    by_cases ho1 : bt (oS h r n) (d % n) = 1
    · have a0 : ft0 h r n d 0 (pw n) = 0 := (f0 0).mpr (fun s x y z => by have := ((ft_iff hW hn s).mp z.1 _ hm.1 hm.2).1 ho1; omega)
      have a1 : ¬ ft0 h r n d 1 (pw n) = 0 := fun y => (f0 1).mp y _ hb.2.1 hb.2.2 ⟨fo, ho1⟩
      rw [if_neg (fun z => z.elim (fun y => y hc) (fun y => (sgl _ ho.1).mp y (hor.mpr (Or.inr ho1)))), if_pos (fun y => (sgl _ hb.2.1).mp y ho1), if_neg (fun z => z.1 a0), if_pos ⟨a0, a1⟩]
    · have ho0 : bt (oS h r n) (d % n) = 0 := by have := bt01 (oS h r n) (d % n); omega
      have a0 : ¬ ft0 h r n d 0 (pw n) = 0 := fun y => (f0 0).mp y _ hb.2.1 hb.2.2 ⟨fo, ho0⟩
      by_cases hz1 : bt (zS h r n) (d % n) = 1
      · have a1 : ft0 h r n d 1 (pw n) = 0 := (f0 1).mpr (fun s x y z => by have := ((ft_iff hW hn s).mp z.1 _ hm.1 hm.2).2 hz1; omega)
        rw [if_neg (fun z => z.elim (fun y => y hc) (fun y => (sgl _ ho.1).mp y (hor.mpr (Or.inl hz1)))), if_neg (fun y => y ((sgl _ hb.2.1).mpr ho1)), if_pos ⟨a0, a1⟩]
      · have hpl := pw_lt hm.1 hm.2
        have hob := or2_bd (x := oS h r n) (y := pw (d % n)) (n := n) hb.2.1 (by omega) (by omega) hb.2.2 hpl
        have hw1 : bt (or2 (oS h r n) (pw (d % n))) (d % n) = 1 := (bt_or hb.2.1 (by omega) hm.1).mpr (Or.inr ((bt_pw hm.1 hm.1).mpr rfl))
        have hwf : ftP h r n (or2 (oS h r n) (pw (d % n))) := (ft_iff hW hn _).mpr (fun j x y => ⟨fun w => (bt_or hb.2.1 (by omega) x).mpr (Or.inl w), fun w => by
          have h1 := bt01 (or2 (oS h r n) (pw (d % n))) j
          refine Classical.byContradiction (fun z => ?_)
          rcases (bt_or (y := pw (d % n)) hb.2.1 (by omega) x).mp (show bt (or2 (oS h r n) (pw (d % n))) j = 1 by omega) with q | q
          · exact (ad_0 hb.1.1 hb.2.1).mp hc j x ⟨w, q⟩
          · have := (bt_pw hm.1 x).mp q
            rw [this] at w; exact hz1 w⟩)
        have a1 : ¬ ft0 h r n d 1 (pw n) = 0 := fun y => (f0 1).mp y _ hob.1 hob.2 ⟨hwf, hw1⟩
        rw [if_pos (Or.inr ((sgl _ ho.1).mpr (fun y => (hor.mp y).elim hz1 ho1))), if_neg (fun z => a1 z.2), if_neg (fun z => a0 z.1)]
  · have a0 : ft0 h r n d 0 (pw n) = 0 := (f0 0).mpr (fun s _ _ z => ft_no hW hn hc s z.1)
    have a1 : ft0 h r n d 1 (pw n) = 0 := (f0 1).mpr (fun s _ _ z => ft_no hW hn hc s z.1)
    rw [if_pos (Or.inl hc), if_neg (fun z => z.1 a0), if_neg (fun z => z.2 a1)]
end BK
theorem mu_3 (h : Mm) (x y v : Int) : mu (mu (mu h 0 12 x) 0 13 y) 0 11 v = mu (mu (mu h 0 11 v) 0 12 x) 0 13 y := by
  funext p j
  unfold mu
  by_cases hp : p = 0
  · by_cases h1 : j = 11
    · simp [hp, h1]
    · by_cases h2 : j = 12
      · simp [hp, h2]
      · by_cases h3 : j = 13 <;> simp [hp, h1, h2, h3]
  · simp [hp]
