theorem tval_22 {L : Nat} {ch : Nat → Nat} {i : Nat} (h : tdig L ch i = true) : tval L ch i < 22 := by
  have a := tdig_e.mp h
  unfold tval
  cases hb : tbig L ch i
  · show tx L ch i - 48 < 22; omega
  · unfold tbig at hb
    simp only [Bool.and_eq_true, decide_eq_true_eq] at hb
    exact hb.2.2
theorem rs_f {L : Nat} {ch : Nat → Nat} {i : Nat} (h : (rsG L ch i).1 = true) (h0 : tx L ch i ≠ 100) (h1 : tx L ch i = 102) : 48 ≤ tx L ch (i + 1) ∧ tx L ch (i + 1) ≤ 55 := by
  unfold rsG at h
  rw [if_neg h0, if_pos h1] at h
  by_cases c : 48 ≤ tx L ch (i + 1) ∧ tx L ch (i + 1) ≤ 55
  · exact c
  · rw [if_neg c] at h; cases h
theorem rs_m {L : Nat} {ch : Nat → Nat} {i : Nat} (h : (rsG L ch i).1 = true) (h0 : tx L ch i ≠ 100) (h1 : tx L ch i ≠ 102) : tdig L ch i = true ∧ tdig L ch (tend L ch i + 1) = true := by
  unfold rsG at h
  rw [if_neg h0, if_neg h1] at h
  by_cases c : tend L ch i = i ∨ tx L ch (tend L ch i) ≠ 62
  · rw [if_pos c] at h; cases h
  · rw [if_neg c] at h
    by_cases d : tend L ch (tend L ch i + 1) = tend L ch i + 1
    · rw [if_pos d] at h; cases h
    · exact ⟨tend_dig (fun z => c (Or.inl z)), tend_dig d⟩
theorem GI_step {L : Nat} {ch : Nat → Nat} {γ γ' : Gm} {i : Nat} (G : GI γ) (hr : (rsG L ch i).1 = true) (h : stepG L ch γ i = some γ') : GI γ' := by
  unfold stepG at h
  by_cases a : tx L ch i = 100
  · rw [if_pos a] at h
    cases ho : qo γ
    · rw [ho] at h; cases h; exact GI_draw G ho
    · rw [ho] at h; cases h
  · rw [if_neg a] at h
    by_cases b : tx L ch i = 102
    · rw [if_pos b] at h
      cases ho : okF γ (tx L ch (i + 1) - 48)
      · rw [ho] at h; cases h
      · rw [ho] at h; cases h; exact GI_freeze G
    · rw [if_neg b] at h
      obtain ⟨d1, d2⟩ := rs_m hr a b
      cases ho : okG γ (tval L ch i) (tval L ch (tend L ch i + 1))
      · rw [ho] at h; cases h
      · rw [ho] at h; cases h; exact GI_move G ho (tval_22 d2)
theorem nI_ne5 {k : Nat} (h : k < 1000000) : ¬ nI k = -5 := by
  intro e
  have h1 := congrArg Int32.toInt e
  rw [nI_toInt (by omega)] at h1
  have : (-5 : Int32).toInt = -5 := by decide
  omega
theorem ov_ne5 {o : Option Nat} (h : oC o) : ¬ ov o = -5 := by
  cases o with
  | none => decide
  | some k => exact nI_ne5 (by have := h k rfl; omega)
theorem ptsG_le (γ : Gm) (f t : Nat) : ptsG γ f t ≤ 3 := by
  unfold ptsG
  split <;> split <;> first | omega | (split <;> omega)
theorem gain_ne5 (γ : Gm) (f t : Nat) : ¬ gainG γ f t = -5 := by
  have hp := ptsG_le γ f t
  unfold gainG
  cases endG γ f t
  · show ¬ nI (ptsG γ f t) + nI 0 = -5
    rw [nI_add]; exact nI_ne5 (by omega)
  · show ¬ nI (ptsG γ f t) + nI 10 = -5
    rw [nI_add]; exact nI_ne5 (by omega)
theorem GI_all {L : Nat} {ch : Nat → Nat} : ∀ (k : Nat) (γ : Gm) (i : Nat), GI γ → (i = L + 1 ∨ vtG L ch k i) → GI (allG L ch k γ i).1
  | 0, _, _, G, _ => G
  | k + 1, γ, i, G, h => by
    unfold allG
    by_cases hi : i < L
    · rw [if_pos hi]
      rcases h with h | h
      · omega
      · cases hs : stepG L ch γ i with
        | none => exact G
        | some γ' =>
          refine GI_all k γ' _ (GI_step G h.1 hs) ?_
          rcases h.2 with z | z
          · exact Or.inl (by rw [z])
          · exact Or.inr z.2.2
    · rw [if_neg hi]; exact G
theorem XR_now {X : Xs} {σ : Sg} {T : Ts} {γ : Gm} (R : XR X (recG σ (zg σ))) (h : TR T γ) : XR (yNow X T) (recG σ γ) := ⟨h, R.2⟩
def wipeG (σ : Sg) : Sg := (zg σ, zn σ, zh σ, zs σ, 0, zc σ)
theorem XR_wipe {X : Xs} {σ : Sg} (R : XR X σ) : XR (yLn X 0) (wipeG σ) := ⟨R.1, R.2.1, R.2.2.1, R.2.2.2.1, rfl, fun i hi => absurd hi (Nat.not_lt_zero _)⟩
theorem SI_wipe {σ : Sg} (S : SI σ) : SI (wipeG σ) := ⟨S.1, S.2.1, S.2.2.1, S.2.2.2.1, Nat.zero_le _, fun i hi => absurd hi (Nat.not_lt_zero _)⟩
