theorem SI_deal' {σ : Sg} (S : SI σ) (a : Int32) : SI (spDeal σ a).2 := by
  unfold spDeal
  split
  · exact S
  · exact SI_rec S (GI_deal _)
theorem SI_move' {σ : Sg} (S : SI σ) (a b : Int32) : SI (spMove σ a b).2 := by
  unfold spMove
  by_cases h : inn 22 a ∧ inn 22 b
  · rw [if_pos h]
    obtain ⟨f, hf, -, hvf⟩ := inn_of (by decide) h.1
    obtain ⟨u, hu, -, hvu⟩ := inn_of (by decide) h.2
    rw [hvf, hvu]
    cases hk : okG (zg σ) f u
    · exact S
    · exact SI_rec S (GI_move S.1 hk hu)
  · rw [if_neg h]; exact S
theorem SI_draw' {σ : Sg} (S : SI σ) : SI (spDraw σ).2 := by
  unfold spDraw
  cases ho : qo (zg σ)
  · exact SI_rec S (GI_draw S.1 ho)
  · exact S
theorem SI_freeze' {σ : Sg} (S : SI σ) (a : Int32) : SI (spFreeze σ a).2 := by
  unfold spFreeze
  by_cases h : inn 8 a
  · rw [if_pos h]
    cases hk : okF (zg σ) (vv a)
    · exact S
    · exact SI_rec S (GI_freeze S.1)
  · rw [if_neg h]; exact S
theorem SI_play' {σ : Sg} (S : SI σ) (a : Int32) : SI (spPlay σ a).2 := by
  unfold spPlay
  split
  · exact SI_rec S (GI_play _ _ S.1)
  · exact S
theorem SI_all' {σ : Sg} (S : SI σ) : SI (spAll σ).2 := by
  unfold spAll
  by_cases h : faultG (zl σ) (zc σ) = none
  · rw [if_pos h]
    exact SI_wipe (SI_rec S (GI_all _ _ _ S.1 (Or.inr (ff_vt h))))
  · rw [if_neg h]; exact S
theorem SI_undo' {σ : Sg} (S : SI σ) : SI (spUndo σ).2 := by
  unfold spUndo
  by_cases h : zn σ = 0
  · rw [if_pos h]; exact S
  · rw [if_neg h]
    obtain ⟨s1, s2, s3, s4, s5, s6⟩ := S
    refine ⟨s3 0 (by omega), by show zn σ - 1 ≤ 6; omega, fun i hi => ?_, s4, s5, s6⟩
    have hi2 : i < zn σ - 1 := hi
    exact s3 (i + 1) (by omega)
theorem SI_save' {σ : Sg} (S : SI σ) (a : Int32) : SI (spSave σ a).2 := by
  unfold spSave
  by_cases h : inn 2 a
  · rw [if_pos h]
    obtain ⟨s1, s2, s3, s4, s5, s6⟩ := S
    refine ⟨s1, s2, s3, fun i hi γ hg => ?_, s5, s6⟩
    have hg2 : (if i = vv a then some (zg σ) else zs σ i) = some γ := hg
    by_cases z : i = vv a
    · rw [if_pos z] at hg2; cases hg2; exact s1
    · rw [if_neg z] at hg2; exact s4 i hi γ hg2
  · rw [if_neg h]; exact S
theorem SI_restore' {σ : Sg} (S : SI σ) (a : Int32) : SI (spRestore σ a).2 := by
  unfold spRestore
  by_cases h : inn 2 a
  · rw [if_pos h]
    obtain ⟨k, hk, -, hvk⟩ := inn_of (by decide) h
    rw [hvk]
    cases hz : zs σ k with
    | none => exact S
    | some γ => exact SI_rec S (S.2.2.2.1 k hk γ hz)
  · rw [if_neg h]; exact S
theorem SI_put' {σ : Sg} (S : SI σ) (x : Int64) : SI (spPut σ x).2 := by
  unfold spPut
  by_cases h : gN x ∧ cN x ≠ 0
  · rw [if_pos h]
    by_cases h6 : 60 < zl σ + cN x
    · rw [if_pos h6]; exact S
    · rw [if_neg h6]; exact SI_put S h.1 h6
  · rw [if_neg h]; exact S
/-- the state of a new game -/
def sg0 : Sg := (dealG 1, 0, fun _ => dealG 1, fun _ => none, 0, fun _ => 0)
theorem SI_0 : SI sg0 := ⟨GI_deal 1, Nat.zero_le _, fun i hi => absurd hi (Nat.not_lt_zero _), (by intro i _ γ h; cases h), Nat.zero_le _, fun i hi => absurd hi (Nat.not_lt_zero _)⟩
