theorem LM_s (γ : Gm) (k : Nat) : LM γ (k + 1) = if okM γ k = true then LM γ k ++ [k] else LM γ k := by
  unfold LM
  rw [List.range_succ, List.filter_append]
  by_cases h : okM γ k = true
  · rw [if_pos h]; simp [h]
  · rw [if_neg h]; simp [h]
theorem LM_mono (γ : Gm) {k : Nat} : ∀ d, (LM γ k).length ≤ (LM γ (k + d)).length
  | 0 => Nat.le_refl _
  | d + 1 => by
    have a := LM_mono γ (k := k) d
    rw [← Nat.add_assoc, LM_s]
    split
    · rw [List.length_append]; omega
    · exact a
theorem okM_e (γ : Gm) {i j : Nat} (hj : j < 22) : okM γ (22 * i + j) = okG γ i j := by
  unfold okM
  rw [show (22 * i + j) / 22 = i by omega, show (22 * i + j) % 22 = j by omega]
def rowB (γ : Gm) (j : Nat) : Nat := (if 3 - qt γ < j then 1 else 0) + (j - 6)
theorem row_b {γ : Gm} (G : GI γ) (i : Nat) : ∀ j, j ≤ 22 → (LM γ (22 * i + j)).length ≤ (LM γ (22 * i)).length + rowB γ j
  | 0, _ => Nat.le_add_right _ _
  | j + 1, h => by
    have e2 := G_t G
    have a := row_b G i j (by omega)
    rw [← Nat.add_assoc, LM_s, okM_e γ (by omega)]
    unfold rowB at a ⊢
    by_cases z : okG γ i j = true
    · rw [if_pos z, List.length_append]
      show _ + 1 ≤ _
      obtain ⟨-, -, -, h4⟩ := okG_spec z
      rcases h4 with h4 | h4 | h4
      · rw [if_pos (by omega)]
        rw [if_pos (by omega)] at a
        omega
      · rw [if_pos (by omega)]
        rw [if_pos (by omega)] at a
        omega
      · rw [if_pos (by omega)]
        rw [if_neg (by omega)] at a
        omega
    · rw [if_neg z]
      split at a <;> split <;> omega
theorem row_0 {γ : Gm} {i : Nat} (hg : mayGiveG γ i = false) : ∀ j, j ≤ 22 → LM γ (22 * i + j) = LM γ (22 * i)
  | 0, _ => rfl
  | j + 1, h => by
    rw [← Nat.add_assoc, LM_s, okM_e γ (by omega), if_neg]
    · exact row_0 hg j (by omega)
    · unfold okG; rw [hg]; simp
def givB (γ : Gm) (i : Nat) : Nat := (if qt γ < i then 1 else 0) + (if 2 + qt γ < i then 1 else 0) + (i - 6)
theorem list_b {γ : Gm} (G : GI γ) : ∀ i, i ≤ 14 → (LM γ (22 * i)).length ≤ 17 * givB γ i
  | 0, _ => by
    show (LM γ 0).length ≤ _
    exact Nat.zero_le _
  | i + 1, h => by
    have e2 := G_t G
    have a := list_b G i (by omega)
    have e : 22 * (i + 1) = 22 * i + 22 := by omega
    rw [e]
    cases hg : mayGiveG γ i
    · rw [row_0 hg 22 (by omega)]
      unfold givB at a ⊢
      split at a <;> split at a <;> split <;> split <;> omega
    · have b := row_b G i 22 (by omega)
      have c : rowB γ 22 = 17 := by unfold rowB; rw [if_pos (by omega)]
      rw [c] at b
      obtain ⟨-, -, h3⟩ := mayGive_iff.mp hg
      simp only [isH, decide_eq_true_eq] at h3
      unfold givB at a ⊢
      split at a <;> split at a <;> split <;> split <;> omega
theorem list_170 {γ : Gm} (G : GI γ) : (LM γ 308).length ≤ 170 := by
  have e2 := G_t G
  have a := list_b G 14 (by omega)
  unfold givB at a
  rw [if_pos (by omega), if_pos (by omega)] at a
  exact a
theorem LM_le {γ : Gm} {k : Nat} (h : k ≤ 308) : (LM γ k).length ≤ (LM γ 308).length := by
  have a := LM_mono γ (k := k) (308 - k)
  rw [show k + (308 - k) = 308 by omega] at a
  exact a
def LF (γ : Gm) (k : Nat) (f : Nat → Int32) : Prop := ∀ j (h : j < (LM γ k).length), f j = nI (LM γ k)[j]
theorem LF_s {γ : Gm} {k : Nat} {f : Nat → Int32} (h : LF γ k f) (hk : okM γ k = true) : LF γ (k + 1) (upd f (LM γ k).length (nI k)) := by
  intro j hj
  have e : LM γ (k + 1) = LM γ k ++ [k] := by rw [LM_s, if_pos hk]
  have hj2 : j < (LM γ k).length + 1 := by rw [e, List.length_append] at hj; exact hj
  unfold upd
  by_cases z : j = (LM γ k).length
  · subst z
    rw [if_pos rfl]
    congr 1
    simp [e]
  · rw [if_neg z, h j (by omega)]
    congr 1
    simp only [e]
    rw [List.getElem_append_left (by omega)]
theorem LF_n {γ : Gm} {k : Nat} {f : Nat → Int32} (h : LF γ k f) (hk : okM γ k = false) : LF γ (k + 1) f := by
  have e : LM γ (k + 1) = LM γ k := by rw [LM_s, if_neg (by rw [hk]; decide)]
  intro j hj
  have hj2 : j < (LM γ k).length := by rw [e] at hj; exact hj
  rw [h j hj2]
  congr 1
  simp only [e]
theorem tab_up (g : jG) (w : jW) (t : Nat) (T : Ts) {z : Nat} (c : va_E) (h : z < t ∨ t + 6 ≤ z) : va_up (tab g w t T) z c = tab g (va_up w z c) t T := by
  funext p
  by_cases hz : p = z
  · subst hz
    rw [up_at, tab_ne _ _ _ _ (by omega), up_at]
  · rw [up_ne _ _ hz]
    unfold tab
    rw [up_ne _ _ hz]
theorem someA_mono {γ : Gm} {k n : Nat} (h : someA γ k n = true) : ∀ d, someA γ k (n + d) = true
  | 0 => h
  | d + 1 => by
    show (someA γ k (n + d) || _) = true
    rw [someA_mono h d]; rfl
theorem LM_2 {γ : Gm} (e2 : qt γ < 2) (i : Nat) : LM γ (22 * i + 2) = LM γ (22 * i) := by
  have a0 : okM γ (22 * i) = okG γ i 0 := okM_e γ (i := i) (j := 0) (by decide)
  have a1 : okM γ (22 * i + 1) = okG γ i 1 := okM_e γ (i := i) (j := 1) (by decide)
  have b0 : ¬ okM γ (22 * i) = true := fun z => by rw [a0] at z; exact absurd (okG_ne z e2).2.2 (by decide)
  have b1 : ¬ okM γ (22 * i + 1) = true := fun z => by rw [a1] at z; exact absurd (okG_ne z e2).2.2 (by decide)
  rw [show 22 * i + 2 = (22 * i + 1) + 1 from rfl, LM_s, if_neg b1, LM_s, if_neg b0]
