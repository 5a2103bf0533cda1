theorem nI_m1 {n : Nat} (h : 0 < n) : nI n + (-1) = nI (n - 1) := by
  obtain ⟨k, rfl⟩ : ∃ k, n = k + 1 := ⟨n - 1, by omega⟩
  rw [← Int32.sub_eq_add_neg, nI_pred]; rfl
def Caps (γ : Gm) : Prop := ∀ p, p < 22 → qn γ p ≤ cap p
theorem GI_caps {γ : Gm} (G : GI γ) : Caps γ := fun _ hp => G_n G hp
theorem TR_mv {T : Ts} {γ : Gm} {f u : Nat} (R : TR T γ) (C : Caps γ) (hf : f < 22) (hu : u < 22) (hfu : f ≠ u) (h0 : 0 < qn γ f) (hc : qn γ u < cap u) :
    TR (sSz (sCd T (upd (Tcd T) (fpv u + qn γ u) (nI (topK γ f)))) (upd (upd (Tsz T) f (nI (qn γ f - 1))) u (nI (qn γ u + 1)))) (mvN γ f u, mvC γ f u, γ.2.2) := by
  obtain ⟨r1, r2, r3, r4, r5, r6, r7, r8, r9⟩ := R
  refine ⟨?_, ?_, r3, r4, r5, r6, r7, r8, r9⟩
  · intro p hp
    show upd (upd (Tsz T) f (nI (qn γ f - 1))) u (nI (qn γ u + 1)) p = nI (mvN γ f u p)
    unfold mvN upd
    by_cases h1 : p = u
    · rw [if_pos h1, if_pos h1]
    · rw [if_neg h1, if_neg h1]
      by_cases h2 : p = f
      · rw [if_pos h2, if_pos h2]
      · rw [if_neg h2, if_neg h2]; exact r1 p hp
  · intro p i hp hi
    show upd (Tcd T) (fpv u + qn γ u) (nI (topK γ f)) (fpv p + i) = nI (mvC γ f u p i)
    rcases mv_old hfu hi with ⟨b1, b2, e1⟩ | ⟨b1, b2, b3, e1⟩
    · rw [e1, b1, b2]; unfold upd; rw [if_pos rfl]
    · rw [e1]
      unfold upd
      rw [if_neg]
      · exact r2 p i hp b1
      · intro z
        have hi2 := C p hp
        have := fpv_inj hp hu (by omega) hc z
        exact b3 this
theorem TR_ext {T : Ts} {γ γ' : Gm} (R : TR T γ) (hn : ∀ p, p < 22 → qn γ' p = qn γ p) (hc : ∀ p i, p < 22 → i < qn γ p → qc γ' p i = qc γ p i) (h2 : γ'.2.2 = γ.2.2) : TR T γ' := by
  obtain ⟨n, c, r⟩ := γ
  obtain ⟨n', c', r'⟩ := γ'
  have h2 : r' = r := h2
  subst h2
  obtain ⟨r1, r2, r3⟩ := R
  exact ⟨fun p hp => by rw [hn p hp]; exact r1 p hp, fun p i hp hi => by
    have hi' : i < n p := by
      have e : n' p = n p := hn p hp
      have hi2 : i < n' p := hi
      omega
    rw [hc p i hp hi']; exact r2 p i hp hi', r3⟩
/-- the waste turned over in part: i cards lie on the hand -/
def tnG (γ : Gm) (i : Nat) : Gm := ((fun p => if p = 4 + qt γ then i else if p = 2 + qt γ then qn γ (2 + qt γ) - i else qn γ p), (fun p j => if p = 4 + qt γ then qc γ (2 + qt γ) (qn γ (2 + qt γ) - 1 - j) else qc γ p j), γ.2.2)
theorem tn_0 {T : Ts} {γ : Gm} (R : TR T γ) (h : qn γ (4 + qt γ) = 0) : TR T (tnG γ 0) := by
  refine TR_ext R ?_ ?_ rfl
  · intro p hp
    show (if p = 4 + qt γ then 0 else if p = 2 + qt γ then qn γ (2 + qt γ) - 0 else qn γ p) = qn γ p
    by_cases h1 : p = 4 + qt γ
    · rw [if_pos h1, h1, h]
    · rw [if_neg h1]
      by_cases h2 : p = 2 + qt γ
      · rw [if_pos h2, h2]; rfl
      · rw [if_neg h2]
  · intro p i hp hi
    show (if p = 4 + qt γ then _ else _) = _
    rw [if_neg]
    intro z; rw [z, h] at hi; omega
theorem tn_n4 (γ : Gm) (i : Nat) : qn (tnG γ i) (4 + qt γ) = i := if_pos rfl
theorem tn_n2 (γ : Gm) (i : Nat) : qn (tnG γ i) (2 + qt γ) = qn γ (2 + qt γ) - i := by
  show (if 2 + qt γ = 4 + qt γ then _ else _) = _
  rw [if_neg (by omega), if_pos rfl]
theorem tn_top (γ : Gm) (i : Nat) : topK (tnG γ i) (2 + qt γ) = qc γ (2 + qt γ) (qn γ (2 + qt γ) - i - 1) := by
  unfold topK
  rw [tn_n2]
  show (if 2 + qt γ = 4 + qt γ then _ else _) = _
  rw [if_neg (by omega)]
theorem tn_caps {γ : Gm} (G : GI γ) {i : Nat} (hi : i ≤ qn γ (2 + qt γ)) : Caps (tnG γ i) := by
  intro p hp
  have h2 := G_t G
  have hw := G_n2 G (p := 2 + qt γ) (by omega)
  show (if p = 4 + qt γ then i else if p = 2 + qt γ then qn γ (2 + qt γ) - i else qn γ p) ≤ cap p
  by_cases h1 : p = 4 + qt γ
  · rw [if_pos h1]; unfold cap; rw [if_pos (by omega)]; omega
  · rw [if_neg h1]
    by_cases h3 : p = 2 + qt γ
    · rw [if_pos h3]; unfold cap; rw [if_pos (by omega)]; omega
    · rw [if_neg h3]; exact G_n G hp
theorem tn_s {T : Ts} {γ : Gm} (G : GI γ) {i : Nat} (R : TR T (tnG γ i)) (hi : i < qn γ (2 + qt γ)) :
    TR (sSz (sCd T (upd (Tcd T) (fpv (4 + qt γ) + i) (nI (qc γ (2 + qt γ) (qn γ (2 + qt γ) - i - 1))))) (upd (upd (Tsz T) (2 + qt γ) (nI (qn γ (2 + qt γ) - i - 1))) (4 + qt γ) (nI (i + 1)))) (tnG γ (i + 1)) := by
  have h2 := G_t G
  have hw := G_n2 G (p := 2 + qt γ) (by omega)
  have a := TR_mv (f := 2 + qt γ) (u := 4 + qt γ) R (tn_caps G (by omega)) (by omega) (by omega) (by omega) (by rw [tn_n2]; omega) (by rw [tn_n4]; unfold cap; rw [if_pos (by omega)]; omega)
  rw [tn_n4, tn_n2, tn_top] at a
  refine TR_ext a ?_ ?_ rfl
  · intro p hp
    show (if p = 4 + qt γ then i + 1 else if p = 2 + qt γ then qn γ (2 + qt γ) - (i + 1) else qn γ p) = mvN (tnG γ i) (2 + qt γ) (4 + qt γ) p
    unfold mvN
    rw [tn_n4, tn_n2]
    by_cases h1 : p = 4 + qt γ
    · rw [if_pos h1, if_pos h1]
    · rw [if_neg h1, if_neg h1]
      by_cases h3 : p = 2 + qt γ
      · rw [if_pos h3, if_pos h3]; omega
      · rw [if_neg h3, if_neg h3]
        show _ = (if p = 4 + qt γ then i else if p = 2 + qt γ then qn γ (2 + qt γ) - i else qn γ p)
        rw [if_neg h1, if_neg h3]
  · intro p j hp hj
    show (if p = 4 + qt γ then qc γ (2 + qt γ) (qn γ (2 + qt γ) - 1 - j) else qc γ p j) = mvC (tnG γ i) (2 + qt γ) (4 + qt γ) p j
    unfold mvC
    rw [tn_n4, tn_top]
    by_cases h1 : p = 4 + qt γ ∧ j = i
    · rw [if_pos h1, if_pos h1.1, h1.2]
      congr 1; omega
    · rw [if_neg h1]
      rfl
theorem tn_end {T : Ts} {γ : Gm} (R : TR T (tnG γ (qn γ (2 + qt γ)))) (h : qn γ (4 + qt γ) = 0) : TR T (turnG γ) := by
  unfold turnG
  rw [if_pos h]
  refine TR_ext R ?_ ?_ rfl
  · intro p hp
    show (if p = 4 + qt γ then _ else if p = 2 + qt γ then 0 else qn γ p) = (if p = 4 + qt γ then qn γ (2 + qt γ) else if p = 2 + qt γ then qn γ (2 + qt γ) - qn γ (2 + qt γ) else qn γ p)
    rw [Nat.sub_self]
  · intro p i hp hi
    rfl
def longG (γ : Gm) (s : Nat) : Nat → Nat
  | 0 => 0
  | k + 1 => if longG γ s k < qn γ (6 + s * 4 + k) then qn γ (6 + s * 4 + k) else longG γ s k
def acesG (γ : Gm) : Nat → Nat
  | 0 => 0
  | k + 1 => acesG γ k + qn γ (14 + k)
def frzN (γ : Gm) : Nat → Nat
  | 0 => 0
  | k + 1 => if 0 < frzG γ (6 + k) then frzN γ k + 1 else frzN γ k
def someA (γ : Gm) (k : Nat) : Nat → Bool
  | 0 => false
  | n + 1 => someA γ k n || fA k (topO γ (14 + n))
theorem long_b {γ : Gm} (G : GI γ) {s : Nat} (hs : s < 2) : ∀ k, k ≤ 4 → longG γ s k ≤ 104
  | 0, _ => Nat.zero_le _
  | k + 1, h => by
    have a := long_b G hs k (by omega)
    have b := G_n2 G (p := 6 + s * 4 + k) (by omega)
    unfold longG; split <;> omega
theorem aces_b {γ : Gm} (G : GI γ) : ∀ k, k ≤ 8 → acesG γ k ≤ 104 * k
  | 0, _ => Nat.zero_le _
  | k + 1, h => by
    have a := aces_b G k (by omega)
    have b := G_n2 G (p := 14 + k) (by omega)
    unfold acesG; omega
theorem frzN_b (γ : Gm) : ∀ k, frzN γ k ≤ k
  | 0 => Nat.le_refl _
  | k + 1 => by
    have a := frzN_b γ k
    unfold frzN; split <;> omega
