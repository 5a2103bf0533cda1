theorem rs_b (L : Nat) (ch : Nat → Nat) (i : Nat) : (rsG L ch i).2 ≤ i + 5 := by
  have e1 := tend_ge L ch i
  have e2 := tend_ge L ch (tend L ch i + 1)
  unfold rsG
  split
  · show i + 1 ≤ _; omega
  · split
    · split
      · show i + 2 ≤ _; omega
      · show i + 1 ≤ _; omega
    · split
      · show tend L ch i ≤ _; omega
      · split
        · show tend L ch i + 1 ≤ _; omega
        · show tend L ch (tend L ch i + 1) ≤ _; omega
theorem tend_nc {L : Nat} {ch : Nat → Nat} {i j : Nat} (h1 : i ≤ j) (h2 : j < tend L ch i) : 48 ≤ tx L ch j ∧ tx L ch j ≤ 57 := by
  have hd := tend_dig (L := L) (ch := ch) (i := i) (by omega)
  have a := tdig_e.mp hd
  unfold tend at h2
  rw [hd] at h2
  cases hb : tbig L ch i
  · rw [hb] at h2
    have : j = i := by have : j < i + 1 := h2; omega
    rw [this]; exact a
  · rw [hb] at h2
    have h3 : j < i + 2 := h2
    unfold tbig at hb
    simp only [Bool.and_eq_true] at hb
    rcases (show j = i ∨ j = i + 1 by omega) with z | z
    · rw [z]; exact a
    · rw [z]; exact tdig_e.mp hb.1
theorem rs_nc {L : Nat} {ch : Nat → Nat} {i j : Nat} (h : (rsG L ch i).1 = true) (h1 : i ≤ j) (h2 : j < (rsG L ch i).2) : tx L ch j ≠ 44 := by
  unfold rsG at h h2
  by_cases a : tx L ch i = 100
  · rw [if_pos a] at h2
    have : j = i := by have : j < i + 1 := h2; omega
    rw [this, a]; decide
  · rw [if_neg a] at h h2
    by_cases b : tx L ch i = 102
    · rw [if_pos b] at h h2
      by_cases c : 48 ≤ tx L ch (i + 1) ∧ tx L ch (i + 1) ≤ 55
      · rw [if_pos c] at h2
        have h3 : j < i + 2 := h2
        rcases (show j = i ∨ j = i + 1 by omega) with z | z
        · rw [z, b]; decide
        · rw [z]; omega
      · rw [if_neg c] at h; cases h
    · rw [if_neg b] at h h2
      by_cases c : tend L ch i = i ∨ tx L ch (tend L ch i) ≠ 62
      · rw [if_pos c] at h; cases h
      · rw [if_neg c] at h h2
        by_cases d : tend L ch (tend L ch i + 1) = tend L ch i + 1
        · rw [if_pos d] at h; cases h
        · rw [if_neg d] at h2
          have h3 : j < tend L ch (tend L ch i + 1) := h2
          rcases Nat.lt_trichotomy j (tend L ch i) with z | z | z
          · have := tend_nc h1 z; omega
          · rw [z]
            have c2 : tx L ch (tend L ch i) = 62 := Classical.not_not.mp (fun y => c (Or.inr y))
            rw [c2]; decide
          · have := tend_nc (L := L) (ch := ch) (i := tend L ch i + 1) (j := j) (by omega) h3
            omega
theorem rsI_t {r : Bool × Nat} (h : r.1 = true) : rsI r = nI r.2 := by unfold rsI; rw [h]; rfl
theorem rsI_f {r : Bool × Nat} (h : r.1 = false) : rsI r = -1 - nI r.2 := by unfold rsI; rw [h]; rfl
theorem tx_L (L : Nat) (ch : Nat → Nat) : tx L ch L = 0 := if_neg (Nat.lt_irrefl _)
