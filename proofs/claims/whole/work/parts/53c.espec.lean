/-! Even: what each turn adds. -/
def lds (F : Int → Int) (n j : Int) : Int := sI (fun d => if d % F 1 = j then ld F d else 0) n
theorem lds_s (F : Int → Int) (j : Int) {n : Int} (h : 0 ≤ n) : lds F (n + 1) j = lds F n j + if n % F 1 = j then ld F n else 0 := sI_s _ h
def ldm (g : Mm) (F : Int → Int) (t : Int) : Mm := fun p j => if p = 86 then lds F t j else g p j
theorem ldm_0 (g : Mm) (F : Int → Int) : mz g = ldm g F 0 := rfl
theorem ldm_o {g : Mm} {F : Int → Int} {t q : Int} (h : q ≠ 86) : ldm g F t q = g q := by funext j; unfold ldm; rw [if_neg h]
theorem ldm_i {g : Mm} {F : Int → Int} {t j : Int} : ldm g F t 86 j = lds F t j := by unfold ldm; rw [if_pos rfl]
theorem ldm_s {g : Mm} {F : Int → Int} {t : Int} (h : 0 ≤ t) : mu (ldm g F t) 86 (t % F 1) (lds F t (t % F 1) + ld F t) = ldm g F (t + 1) := by
  funext p j
  by_cases hp : p = 86
  · subst hp
    rw [ldm_i, lds_s F j h]
    by_cases hj : j = t % F 1
    · rw [hj, mu_at, if_pos rfl]
    · rw [mu_nj hj, ldm_i, if_neg (fun z => hj z.symm), Int.add_zero]
  · rw [mu_ne hp, ldm_o hp, ldm_o hp]
theorem FR_86 {g h : Mm} {F : Int → Int} (H : FR g 0 F) (HI : FI F) (e : ∀ q, q ≠ 86 → h q = g q) : FR h 0 F := by
  have hn := HI.n
  refine ⟨?_, fun j a b => ?_, fun j a b => ?_, fun i a b => ?_, fun k a b => ?_⟩
  · rw [e _ (by decide)]; exact H.1
  · rw [e _ (by decide)]; exact H.2.1 j a b
  · rw [e _ (by decide)]; exact H.2.2.1 j a b
  · rw [e _ (by omega)]; exact H.2.2.2.1 i a b
  · rw [e _ (by decide), e _ (by decide)]; exact H.2.2.2.2 k a b
theorem sI_one {x j : Int} {n : Int} (hn : 0 ≤ n) (h0 : 0 ≤ j) (h1 : j < n) : sI (fun k => if k = j then x else 0) n = x := by
  obtain ⟨m, rfl⟩ : ∃ m : Nat, n = j + 1 + m := ⟨(n - j - 1).toNat, by omega⟩
  clear hn h1
  have z : sI (fun k => if k = j then x else 0) j = 0 := by
    have : sI (fun k => if k = j then x else 0) j = sI (fun _ => 0) j := sI_cg (fun e a b => by rw [if_neg (by omega)]) h0
    rw [this]
    have b := sI_bd (h := fun _ => (0 : Int)) (B := 0) (n := j) (fun _ _ _ => ⟨by omega, by omega⟩) h0
    omega
  induction m with
  | zero => rw [show j + 1 + ((0 : Nat) : Int) = j + 1 by omega, sI_s _ h0, z, if_pos rfl]; omega
  | succ m ih => rw [show j + 1 + ((m + 1 : Nat) : Int) = j + 1 + (m : Int) + 1 by omega, sI_s _ (by omega), ih, if_neg (by omega)]; omega
theorem sI_add {h k : Int → Int} {n : Int} (hn : 0 ≤ n) : sI (fun x => h x + k x) n = sI h n + sI k n := by
  obtain ⟨m, rfl⟩ := Int.eq_ofNat_of_zero_le hn
  induction m with
  | zero => rfl
  | succ m ih =>
    rw [show ((m + 1 : Nat) : Int) = (m : Int) + 1 by omega, sI_s _ (by omega), sI_s _ (by omega), sI_s _ (by omega), ih (by omega)]
    omega
theorem ev_lead {F : Int → Int} {t : Int} (hI : FI F) (hT : 0 < F 1) : sI (fun k => if bt t k = 0 then lds F 24 k else -lds F 24 k) 8 = -sI (evS F t) 24 := by
  have hn := hI.n
  suffices h : ∀ m : Nat, sI (fun k => if bt t k = 0 then lds F (m : Int) k else -lds F (m : Int) k) 8 = -sI (evS F t) (m : Int) from h 24
  intro m
  induction m with
  | zero =>
    have : sI (fun k => if bt t k = 0 then lds F ((0 : Nat) : Int) k else -lds F ((0 : Nat) : Int) k) 8 = sI (fun _ => 0) 8 := sI_cg (fun e a b => by
      have : lds F ((0 : Nat) : Int) e = 0 := rfl
      rw [this]; split <;> rfl) (by decide)
    rw [this]; rfl
  | succ m ih =>
    have hm := emd (d := (m : Int)) (n := F 1) hT
    have h01 := fOn01 hI hT (m : Int)
    have hb := bt01 t ((m : Int) % F 1)
    have e : sI (fun k => if bt t k = 0 then lds F ((m + 1 : Nat) : Int) k else -lds F ((m + 1 : Nat) : Int) k) 8 = sI (fun k => (if bt t k = 0 then lds F (m : Int) k else -lds F (m : Int) k) + (if k = (m : Int) % F 1 then (if bt t ((m : Int) % F 1) = 0 then ld F m else -ld F m) else 0)) 8 := sI_cg (fun k a b => by
      rw [show ((m + 1 : Nat) : Int) = (m : Int) + 1 by omega, lds_s F k (by omega)]
      by_cases hk : k = (m : Int) % F 1
      · rw [if_pos hk, if_pos (show (m : Int) % F 1 = k from hk.symm), hk]; split <;> omega
      · rw [if_neg hk, if_neg (show ¬ (m : Int) % F 1 = k from fun z => hk z.symm)]; split <;> omega) (by decide)
    rw [e, sI_add (by decide), ih, sI_one (by decide) hm.1 (by omega), show ((m + 1 : Nat) : Int) = (m : Int) + 1 by omega, sI_s _ (by omega)]
    unfold evS ld
    rcases h01 with h | h <;> rcases hb with h2 | h2 <;> rw [h, h2] <;> simp <;> omega
theorem ev_mu {g : Mm} {F : Int → Int} {t y q : Int} (h : q ≠ 86) : mu (ldm g F t) 0 7 y q = mu g 0 7 y q := by
  funext j; unfold mu; rw [ldm_o h]
