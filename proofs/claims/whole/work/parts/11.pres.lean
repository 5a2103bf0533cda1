theorem sumN_cong {f h : Nat → Nat} : ∀ {k : Nat}, (∀ p, p < k → f p = h p) → sumN f k = sumN h k
  | 0, _ => rfl
  | k + 1, e => by
    simp only [sumN]
    rw [sumN_cong (k := k) (fun p hp => e p (by omega)), e k (by omega)]
theorem sumN_upd {f : Nat → Nat} {t v : Nat} : ∀ {k : Nat}, t < k → sumN (fun p => if p = t then v else f p) k + f t = sumN f k + v
  | k + 1, h => by
    simp only [sumN]
    rcases Nat.lt_or_ge t k with h1 | h1
    · have a := sumN_upd (f := f) (v := v) h1
      rw [if_neg (by omega)]
      omega
    · have e : t = k := by omega
      subst e
      rw [if_pos rfl, sumN_cong (f := fun p => if p = t then v else f p) (h := f) (fun p hp => if_neg (by omega))]
      omega
theorem mv_old {γ : Gm} {f t p i : Nat} (hft : f ≠ t) (h : i < mvN γ f t p) : (p = t ∧ i = qn γ t ∧ mvC γ f t p i = topK γ f) ∨ (i < qn γ p ∧ ¬ (p = f ∧ i = qn γ f - 1) ∧ ¬ (p = t ∧ i = qn γ t) ∧ mvC γ f t p i = qc γ p i) := by
  unfold mvN at h
  unfold mvC
  by_cases h1 : p = t
  · rw [if_pos h1] at h
    by_cases h2 : i = qn γ t
    · exact Or.inl ⟨h1, h2, if_pos ⟨h1, h2⟩⟩
    · exact Or.inr ⟨by rw [h1]; omega, fun z => hft (z.1.symm.trans h1), fun z => h2 z.2, if_neg (fun z => h2 z.2)⟩
  · rw [if_neg h1] at h
    by_cases h2 : p = f
    · rw [if_pos h2] at h
      exact Or.inr ⟨by rw [h2]; omega, fun z => by omega, fun z => h1 z.1, if_neg (fun z => h1 z.1)⟩
    · rw [if_neg h2] at h
      exact Or.inr ⟨h, fun z => h2 z.1, fun z => h1 z.1, if_neg (fun z => h1 z.1)⟩
theorem PI_mv {γ : Gm} {f t : Nat} (h : PI (qn γ) (qc γ)) (hf : f < 22) (ht : t < 22) (hft : f ≠ t) (h0 : 0 < qn γ f) (h2 : 2 ≤ t) (hh : 6 ≤ t → t < 14 → 0 < qn γ t → rank (topK γ f) + 1 = rank (qc γ t (qn γ t - 1))) (ha : 14 ≤ t → rank (topK γ f) = qn γ t) : PI (mvN γ f t) (mvC γ f t) := by
  obtain ⟨a1, a2, a3, a4, a5, a6, a7⟩ := h
  refine ⟨?_, ?_, ?_, ?_, ?_, ?_, ?_⟩
  · intro p i hp hi
    rcases mv_old hft hi with ⟨_, _, e⟩ | ⟨b1, _, _, e⟩
    · rw [e]; exact a1 f _ hf (by omega)
    · rw [e]; exact a1 p i hp b1
  · intro p q i j hp hq hi hj e
    rcases mv_old hft hi with ⟨b1, b2, e1⟩ | ⟨b1, b2, b3, e1⟩
    · rcases mv_old hft hj with ⟨c1, c2, e2⟩ | ⟨c1, c2, c3, e2⟩
      · exact ⟨b1.trans c1.symm, b2.trans c2.symm⟩
      · rw [e1, e2] at e
        have z := a2 f q _ j hf hq (by omega) c1 e
        exact absurd ⟨z.1.symm, z.2.symm⟩ c2
    · rcases mv_old hft hj with ⟨c1, c2, e2⟩ | ⟨c1, c2, c3, e2⟩
      · rw [e1, e2] at e
        exact absurd (a2 p f i _ hp hf b1 (by omega) e) b2
      · rw [e1, e2] at e
        exact a2 p q i j hp hq b1 c1 e
  · intro k hk
    obtain ⟨p, i, hp, hi, e⟩ := a3 k hk
    by_cases h1 : p = f ∧ i = qn γ f - 1
    · refine ⟨t, qn γ t, ht, by unfold mvN; rw [if_pos rfl]; omega, ?_⟩
      unfold mvC
      rw [if_pos ⟨rfl, rfl⟩, ← e, h1.1, h1.2]
      rfl
    · refine ⟨p, i, hp, ?_, ?_⟩
      · unfold mvN
        by_cases h3 : p = t
        · rw [if_pos h3, ← h3]; omega
        · rw [if_neg h3]
          by_cases h4 : p = f
          · rw [if_pos h4]
            have : ¬ i = qn γ f - 1 := fun z => h1 ⟨h4, z⟩
            rw [h4] at hi; omega
          · rw [if_neg h4]; exact hi
      · unfold mvC
        rw [if_neg, e]
        rintro ⟨z1, z2⟩
        rw [z1] at hi; omega
  · have b1 := sumN_upd (f := qn γ) (t := f) (v := qn γ f - 1) hf
    have b2 := sumN_upd (f := fun p => if p = f then qn γ f - 1 else qn γ p) (t := t) (v := qn γ t + 1) ht
    simp only [if_neg (fun z => hft (Eq.symm z))] at b2
    show sumN (mvN γ f t) 22 = 104
    have e : sumN (mvN γ f t) 22 = sumN (fun p => if p = t then qn γ t + 1 else if p = f then qn γ f - 1 else qn γ p) 22 := rfl
    omega
  · intro p i hp6 hp14 hi
    have hi0 : i < mvN γ f t p := by omega
    rcases mv_old hft hi with ⟨b1, b2, e1⟩ | ⟨b1, b2, b3, e1⟩
    · rcases mv_old hft hi0 with ⟨c1, c2, e2⟩ | ⟨c1, c2, c3, e2⟩
      · omega
      · rw [e1, e2]
        subst b1
        have := hh hp6 hp14 (by omega)
        rw [this, show qn γ p - 1 = i by omega]
    · rcases mv_old hft hi0 with ⟨c1, c2, e2⟩ | ⟨c1, c2, c3, e2⟩
      · subst c1; omega
      · rw [e1, e2]; exact a5 p i hp6 hp14 b1
  · intro p i hp14 hp22 hi
    rcases mv_old hft hi with ⟨b1, b2, e1⟩ | ⟨b1, b2, b3, e1⟩
    · rw [e1, b2]; exact ha (by omega)
    · rw [e1]; exact a6 p i hp14 hp22 b1
  · intro p hp
    have := a7 p hp
    unfold mvN
    rw [if_neg (by omega)]
    by_cases h4 : p = f
    · rw [if_pos h4, ← h4]; omega
    · rw [if_neg h4]; exact this
theorem PI_turn {γ : Gm} (h : PI (qn γ) (qc γ)) (ht : qt γ < 2) : PI (qn (turnG γ)) (qc (turnG γ)) := by
  unfold turnG
  by_cases h0 : qn γ (4 + qt γ) = 0
  · rw [if_pos h0]
    obtain ⟨a1, a2, a3, a4, a5, a6, a7⟩ := h
    -- where a card lay before
    have key : ∀ p i, p < 22 → i < (if p = 4 + qt γ then qn γ (2 + qt γ) else if p = 2 + qt γ then 0 else qn γ p) →
        ∃ p' i', p' < 22 ∧ i' < qn γ p' ∧ (if p = 4 + qt γ then qc γ (2 + qt γ) (qn γ (2 + qt γ) - 1 - i) else qc γ p i) = qc γ p' i' ∧ ((p = 4 + qt γ ∧ p' = 2 + qt γ ∧ i' + i + 1 = qn γ (2 + qt γ)) ∨ (p' = p ∧ i' = i ∧ p ≠ 4 + qt γ ∧ p ≠ 2 + qt γ)) := by
      intro p i hp hi
      by_cases h1 : p = 4 + qt γ
      · rw [if_pos h1] at hi
        exact ⟨2 + qt γ, qn γ (2 + qt γ) - 1 - i, by omega, by omega, by rw [if_pos h1], Or.inl ⟨h1, rfl, by omega⟩⟩
      · rw [if_neg h1] at hi
        by_cases h2 : p = 2 + qt γ
        · rw [if_pos h2] at hi; omega
        · rw [if_neg h2] at hi
          exact ⟨p, i, hp, hi, by rw [if_neg h1], Or.inr ⟨rfl, rfl, h1, h2⟩⟩
    refine ⟨?_, ?_, ?_, ?_, ?_, ?_, ?_⟩
    · intro p i hp hi
      obtain ⟨p', i', b1, b2, b3, -⟩ := key p i hp hi
      show (if p = 4 + qt γ then _ else _) < 104
      rw [b3]; exact a1 p' i' b1 b2
    · intro p q i j hp hq hi hj e
      obtain ⟨p', i', b1, b2, b3, b4⟩ := key p i hp hi
      obtain ⟨q', j', c1, c2, c3, c4⟩ := key q j hq hj
      have e2 : qc γ p' i' = qc γ q' j' := b3.symm.trans (Eq.trans e c3)
      have := a2 p' q' i' j' b1 c1 b2 c2 e2
      omega
    · intro k hk
      obtain ⟨p, i, hp, hi, e⟩ := a3 k hk
      by_cases h1 : p = 2 + qt γ
      · refine ⟨4 + qt γ, qn γ (2 + qt γ) - 1 - i, by omega, ?_, ?_⟩
        · show _ < (if 4 + qt γ = 4 + qt γ then _ else _)
          rw [if_pos rfl]
          rw [h1] at hi; omega
        · show (if 4 + qt γ = 4 + qt γ then _ else _) = k
          rw [if_pos rfl, ← e, h1]
          congr 1
          rw [h1] at hi; omega
      · refine ⟨p, i, hp, ?_, ?_⟩
        · show _ < (if p = 4 + qt γ then _ else _)
          rw [if_neg, if_neg h1]
          · exact hi
          · intro z; rw [z] at hi; omega
        · show (if p = 4 + qt γ then _ else _) = k
          rw [if_neg, e]
          intro z; rw [z] at hi; omega
    · have b1 := sumN_upd (f := qn γ) (t := 2 + qt γ) (v := 0) (k := 22) (by omega)
      have b2 := sumN_upd (f := fun p => if p = 2 + qt γ then 0 else qn γ p) (t := 4 + qt γ) (v := qn γ (2 + qt γ)) (k := 22) (by omega)
      simp only [if_neg (show ¬ 4 + qt γ = 2 + qt γ by omega)] at b2
      show sumN (fun p => if p = 4 + qt γ then qn γ (2 + qt γ) else if p = 2 + qt γ then 0 else qn γ p) 22 = 104
      omega
    · intro p i h6 h14 hi
      have e : ∀ i, (if p = 4 + qt γ then qc γ (2 + qt γ) (qn γ (2 + qt γ) - 1 - i) else qc γ p i) = qc γ p i := fun i => if_neg (by omega)
      have hi2 : i + 1 < qn γ p := by
        have hi' : i + 1 < (if p = 4 + qt γ then qn γ (2 + qt γ) else if p = 2 + qt γ then 0 else qn γ p) := hi
        rw [if_neg (by omega), if_neg (by omega)] at hi'; exact hi'
      show rank (if p = 4 + qt γ then _ else _) + 1 = rank (if p = 4 + qt γ then _ else _)
      rw [e, e]; exact a5 p i h6 h14 hi2
    · intro p i h14 h22 hi
      have hi2 : i < qn γ p := by
        have hi' : i < (if p = 4 + qt γ then qn γ (2 + qt γ) else if p = 2 + qt γ then 0 else qn γ p) := hi
        rw [if_neg (by omega), if_neg (by omega)] at hi'; exact hi'
      show rank (if p = 4 + qt γ then _ else _) = i
      rw [if_neg (by omega)]; exact a6 p i h14 h22 hi2
    · intro p hp
      show (if p = 4 + qt γ then _ else _) ≤ 13
      rw [if_neg (by omega), if_neg (by omega)]; exact a7 p hp
  · rw [if_neg h0]; exact h
theorem turn_n (γ : Gm) : qt (turnG γ) = qt γ := by unfold turnG; split <;> rfl
theorem turn_2 (γ : Gm) : (turnG γ).2.2 = γ.2.2 := by unfold turnG; split <;> rfl
theorem PI_take {γ : Gm} (h : PI (qn γ) (qc γ)) (ht : qt γ < 2) : PI (qn (takeG γ)) (qc (takeG γ)) := by
  unfold takeG
  by_cases h0 : qn γ (4 + qt γ) = 0
  · rw [if_pos h0]; exact h
  · rw [if_neg h0]
    exact PI_mv h (by omega) (by omega) (by omega) (by omega) (by omega) (fun z => by omega) (fun z => by omega)
theorem okG_spec {γ : Gm} {f t : Nat} (h : okG γ f t = true) : qo γ = false ∧ 0 < qn γ f ∧ (f = qt γ ∨ f = 2 + qt γ ∨ (6 ≤ f ∧ f < 14 ∧ qz γ (f - 6) = 0)) ∧
    ((6 ≤ t ∧ t < 14 ∧ qz γ (t - 6) = 0 ∧ fH (topK γ f) (topO γ t) = true) ∨ (14 ≤ t ∧ fA (topK γ f) (topO γ t) = true) ∨ (t < 6 ∧ t = 3 - qt γ ∧ fW (topK γ f) (topO γ t) = true)) := by
  unfold okG mayGiveG mayTakeG isH at h
  simp only [Bool.and_eq_true, Bool.not_eq_true', decide_eq_true_eq, Bool.or_eq_true, beq_iff_eq] at h
  obtain ⟨⟨h1, h2, h3⟩, h4⟩ := h
  refine ⟨h1, h2, ?_, ?_⟩
  · rcases h3 with h3 | h3 | h3
    · exact Or.inl h3
    · exact Or.inr (Or.inl h3)
    · exact Or.inr (Or.inr ⟨h3.1.1, h3.1.2, h3.2⟩)
  · by_cases a : 6 ≤ t ∧ t < 14
    · simp only [a, and_self, decide_true, cond_true, Bool.and_eq_true, beq_iff_eq] at h4
      exact Or.inl ⟨a.1, a.2, h4.1, h4.2⟩
    · simp only [decide_eq_false a, cond_false] at h4
      by_cases b : 14 ≤ t
      · simp only [b, decide_true, cond_true] at h4
        exact Or.inr (Or.inl ⟨b, h4⟩)
      · simp only [decide_eq_false b, cond_false, Bool.and_eq_true, beq_iff_eq] at h4
        exact Or.inr (Or.inr ⟨by omega, h4.1, h4.2⟩)
theorem okG_ne {γ : Gm} {f t : Nat} (h : okG γ f t = true) (ht2 : qt γ < 2) : f ≠ t ∧ f < 14 ∧ 2 ≤ t := by
  obtain ⟨h1, h2, h3, h4⟩ := okG_spec h
  refine ⟨?_, by omega, by omega⟩
  intro e
  subst e
  have ht : topO γ f = some (topK γ f) := by unfold topO topK; rw [if_neg (by omega)]
  rw [ht] at h4
  rcases h4 with ⟨-, -, -, h4⟩ | ⟨-, h4⟩ | ⟨-, -, h4⟩
  · simp [fH] at h4
  · simp [fA] at h4
  · simp only [fW, Bool.and_eq_true, Bool.or_eq_true, beq_iff_eq] at h4
    omega
theorem GI_move {γ : Gm} {f t : Nat} (h : GI γ) (hk : okG γ f t = true) (ht : t < 22) : GI (moveG γ f t) := by
  obtain ⟨g1, g2, g3, g4, g5, g6⟩ := h
  obtain ⟨n1, n2, n3⟩ := okG_ne hk g2
  obtain ⟨h1, h2, h3, h4⟩ := okG_spec hk
  refine ⟨PI_mv g1 (by omega) ht n1 h2 n3 ?_ ?_, g2, g3, g4, g5, ?_⟩
  · intro a b c
    rcases h4 with h4 | h4 | h4
    · have e : topO γ t = some (qc γ t (qn γ t - 1)) := by unfold topO; rw [if_neg (by omega)]
      rw [e] at h4
      simp only [fH, Bool.and_eq_true, beq_iff_eq] at h4
      exact h4.2.2.2.2
    · omega
    · omega
  · intro a
    rcases h4 with h4 | h4 | h4
    · omega
    · obtain ⟨-, h4⟩ := h4
      by_cases z : qn γ t = 0
      · have e : topO γ t = none := by unfold topO; rw [if_pos z]
        rw [e] at h4
        simp only [fA, beq_iff_eq] at h4
        omega
      · have e : topO γ t = some (qc γ t (qn γ t - 1)) := by unfold topO; rw [if_neg z]
        rw [e] at h4
        simp only [fA, Bool.and_eq_true, beq_iff_eq] at h4
        have := g1.2.2.2.2.2.1 t (qn γ t - 1) a ht (by omega)
        omega
    · omega
  · intro e
    show (qo γ || _) = true
    rw [g6 e]; rfl
theorem GI_draw {γ : Gm} (h : GI γ) (ho : qo γ = false) : GI (drawG γ) := by
  obtain ⟨g1, g2, g3, g4, g5, g6⟩ := h
  have hd : qd γ < 200 := by
    rcases Nat.lt_or_ge (qd γ) 200 with z | z
    · exact z
    · have := g6 (by omega); rw [ho] at this; cases this
  have e1 := turn_n γ
  refine ⟨PI_take (PI_turn g1 g2) (by rw [e1]; exact g2), ?_, g3, ?_, ?_, ?_⟩
  · show 1 - qt γ < 2; omega
  · intro k hk
    have := g4 k hk
    show qz γ k - 1 ≤ 3; omega
  · show qd γ + 1 ≤ 200; omega
  · intro e
    have e' : qd γ + 1 = 200 := e
    show decide (200 ≤ qd γ + 1) = true
    exact decide_eq_true (by omega)
theorem GI_freeze {γ : Gm} {k : Nat} (h : GI γ) : GI (freezeG γ k) := by
  obtain ⟨g1, g2, g3, g4, g5, g6⟩ := h
  refine ⟨g1, g2, ?_, ?_, g5, g6⟩
  · intro s hs
    have := g3 s hs
    show (if s = qt γ then qf γ s - 1 else qf γ s) ≤ 2
    split <;> omega
  · intro j hj
    have := g4 j hj
    show (if j = k then 3 else qz γ j) ≤ 3
    split <;> omega
