theorem xw_con {g : jG} {d : Nat} {y : MethodName} {b : ByteArray} {n : Nat} {r : Option FieldType} {As : List Value} {w : jW} {X : Xs} {Φ : Option Value → jW → Prop} {i : Nat} (hi : i < 10) (c : Con g d y b n r As (tab g (xw g w X) (7 + 6 * i) (xtab X (7 + 6 * i))) Φ) : Con g d y b n r As (xw g w X) Φ := by
  rw [xw_tab g w X hi] at c
  exact c
theorem xw_r (g : jG) (w : jW) (X : Xs) {i : Nat} (hi : i < 10) : xw g w X (7 + 6 * i) = tobj g (7 + 6 * i) (Ttp (xtab X (7 + 6 * i))) (Tdr (xtab X (7 + 6 * i))) (Tmv (xtab X (7 + 6 * i))) (Tov (xtab X (7 + 6 * i))) := xw_t g w X hi (k := 0) (by decide)
theorem xw_2t (g : jG) (w : jW) (X : Xs) {i j : Nat} (hi : i < 10) (hj : j < 10) : xw g w X = tab g (tab g (xw g w X) (7 + 6 * j) (xtab X (7 + 6 * j))) (7 + 6 * i) (xtab X (7 + 6 * i)) := by
  rw [xw_tab g w X hj, xw_tab g w X hi]
theorem xw_2u (g : jG) (w : jW) (X : Xs) {i j : Nat} (hi : i < 10) (hj : j < 10) (T U : Ts) : tab g (tab g (xw g w X) (7 + 6 * j) U) (7 + 6 * i) T = xw g w (yTab (yTab X j U) i T) := by
  rw [xw_ut g w X hj, xw_ut g w _ hi]
-- the best move
def bestI (γ : Gm) : Int32 := match bestG γ with
  | none => -6
  | some b => nI b.1
theorem LM_lt {γ : Gm} {k j : Nat} (h : j < (LM γ k).length) : (LM γ k)[j] < k := by
  have a : (LM γ k)[j] ∈ LM γ k := List.getElem_mem h
  unfold LM at a
  exact List.mem_range.mp (List.mem_filter.mp a).1
theorem LM_ok {γ : Gm} {k j : Nat} (h : j < (LM γ k).length) : okM γ (LM γ k)[j] = true := by
  have a : (LM γ k)[j] ∈ LM γ k := List.getElem_mem h
  unfold LM at a
  exact (List.mem_filter.mp a).2
theorem BL_s (γ : Gm) (l : List Nat) (m : Nat) : BL γ (l ++ [m]) = bstep γ (BL γ l) m := by
  unfold BL
  rw [List.foldl_append]; rfl
theorem ptM_le (γ : Gm) (m : Nat) : ptM γ m ≤ 3 := by
  unfold ptM ptsG
  split <;> split <;> first | omega | (split <;> omega)
/-- after i of a list: how many, a best that stands at its place, points at most 4 -/
theorem BL_ok (γ : Gm) (l : List Nat) : ∀ i, i ≤ l.length → (BL γ (l.take i)).1 = i ∧ (BL γ (l.take i)).2.2 ≤ 4 ∧ ∀ b, (BL γ (l.take i)).2.1 = some b → ∃ h : b.1 < l.length, b.1 < i ∧ l[b.1] = b.2
  | 0, _ => ⟨rfl, Nat.zero_le _, fun b h => by cases h⟩
  | i + 1, h => by
    obtain ⟨a1, a2, a3⟩ := BL_ok γ l i (by omega)
    rw [List.take_succ_eq_append_getElem (by omega), BL_s]
    have hp := ptM_le γ l[i]
    unfold bstep
    by_cases z : (BL γ (l.take i)).2.2 ≤ ptM γ l[i]
    · rw [if_pos z]
      refine ⟨by show _ + 1 = _; rw [a1], by show ptM γ l[i] + 1 ≤ 4; omega, fun b hb => ?_⟩
      have hb2 : some ((BL γ (l.take i)).1, l[i]) = some b := hb
      cases hb2
      refine ⟨by show (BL γ (l.take i)).1 < _; rw [a1]; omega, by show (BL γ (l.take i)).1 < _; rw [a1]; omega, ?_⟩
      simp only [a1]
    · rw [if_neg z]
      refine ⟨by show _ + 1 = _; rw [a1], a2, fun b hb => ?_⟩
      obtain ⟨h1, h2, h3⟩ := a3 b hb
      exact ⟨h1, by omega, h3⟩
theorem best_ok {γ : Gm} {b : Nat × Nat} (h : bestG γ = some b) : ∃ hb : b.1 < (LM γ 308).length, (LM γ 308)[b.1] = b.2 := by
  have a := BL_ok γ (LM γ 308) (LM γ 308).length (Nat.le_refl _)
  rw [List.take_length] at a
  obtain ⟨h1, h2, h3⟩ := a.2.2 b h
  exact ⟨h1, h3⟩
/-- the best so far, as the class keeps it -/
def bI (o : Option (Nat × Nat)) : Int32 := match o with
  | none => -6
  | some b => nI b.1
-- what the whole says: game, history (newest first), slots, pad
abbrev Sg : Type := Gm × Nat × (Nat → Gm) × (Nat → Option Gm) × Nat × (Nat → Nat)
abbrev zg (σ : Sg) : Gm := σ.1
abbrev zn (σ : Sg) : Nat := σ.2.1
abbrev zh (σ : Sg) : Nat → Gm := σ.2.2.1
abbrev zs (σ : Sg) : Nat → Option Gm := σ.2.2.2.1
abbrev zl (σ : Sg) : Nat := σ.2.2.2.2.1
abbrev zc (σ : Sg) : Nat → Nat := σ.2.2.2.2.2
def recG (σ : Sg) (γ : Gm) : Sg := (γ, min (zn σ + 1) 6, (fun i => if i = 0 then zg σ else zh σ (i - 1)), zs σ, zl σ, zc σ)
/-- what holds of it -/
def SI (σ : Sg) : Prop := GI (zg σ) ∧ zn σ ≤ 6 ∧ (∀ i, i < zn σ → GI (zh σ i)) ∧ (∀ i, i < 2 → ∀ γ, zs σ i = some γ → GI γ) ∧ zl σ ≤ 60 ∧ ∀ i, i < zl σ → 33 ≤ zc σ i ∧ zc σ i ≤ 126
def XR (X : Xs) (σ : Sg) : Prop :=
  TR (Xnow X) (zg σ) ∧ Xud X = nI (zn σ) ∧ (∃ np, np < 6 ∧ Xnp X = nI np ∧ ∀ i, i < zn σ → TR (Xpa X ((np + 5 - i) % 6)) (zh σ i)) ∧
  (∀ i, i < 2 → (zs σ i = none ∧ Xsv X i = 0) ∨ ∃ γ, zs σ i = some γ ∧ Xsv X i = 1 ∧ TR (Xsl X i) γ) ∧ Xln X = nI (zl σ) ∧ ∀ i, i < zl σ → Xsg X i = nI (zc σ i)
theorem SI_rec {σ : Sg} (S : SI σ) {γ : Gm} (G : GI γ) : SI (recG σ γ) := by
  obtain ⟨s1, s2, s3, s4, s5, s6⟩ := S
  refine ⟨G, by show min _ 6 ≤ 6; omega, fun i hi => ?_, s4, s5, s6⟩
  show GI (if i = 0 then zg σ else zh σ (i - 1))
  by_cases z : i = 0
  · rw [if_pos z]; exact s1
  · rw [if_neg z]
    have hi2 : i < min (zn σ + 1) 6 := hi
    exact s3 (i - 1) (by omega)
theorem fm_up : ∀ k, k < 6 → fmj (nI (k + 1)) 6 = nI ((k + 1) % 6) := by decide +kernel
theorem fm_dn : ∀ k, k < 6 → fmj (nI k - 1) 6 = nI ((k + 5) % 6) := by decide +kernel
theorem min_i {k : Nat} (hk : k < 1000) : (if (6 : Int32) < nI (k + 1) then 6 else nI (k + 1)) = nI (min (k + 1) 6) := by
  by_cases h : 6 < k + 1
  · rw [if_pos ((i_Llt (by omega) (by decide)).mpr h), show min (k + 1) 6 = 6 by omega]; rfl
  · rw [if_neg (fun z => h ((i_Llt (by omega) (by decide)).mp z)), show min (k + 1) 6 = k + 1 by omega]
theorem xt_y (X : Xs) {i : Nat} (hi : i < 10) (T : Ts) : xtab (yTab X i T) (7 + 6 * i) = T := by
  unfold xtab yTab
  by_cases a0 : i = 0
  · subst a0; rfl
  · rw [if_neg (show ¬ 7 + 6 * i < 13 by omega)]
    by_cases a1 : i = 1
    · subst a1; rfl
    · rw [if_neg (show ¬ 7 + 6 * i < 19 by omega)]
      by_cases a2 : i < 8
      · rw [if_pos (show 7 + 6 * i < 55 by omega), if_neg a0, if_neg a1, if_pos a2]
        show (if (7 + 6 * i - 19) / 6 = i - 2 then T else _) = T
        rw [if_pos (by omega)]
      · rw [if_neg (show ¬ 7 + 6 * i < 55 by omega), if_neg a0, if_neg a1, if_neg a2]
        show (if (7 + 6 * i - 55) / 6 = i - 8 then T else _) = T
        rw [if_pos (by omega)]
theorem y_cmp (X : Xs) {i : Nat} (hi : i < 2) (f f' : Nat → Int32) (T T' : Ts) : yTab (yMv (yTab (yMv X f) i T) f') i T' = yTab (yMv X f') i T' := by
  rcases (show i = 0 ∨ i = 1 by omega) with rfl | rfl <;> rfl
theorem y_m (X : Xs) {i : Nat} (hi : i < 2) (f f' : Nat → Int32) (T : Ts) : yMv (yTab (yMv X f) i T) f' = yTab (yMv X f') i T := by
  rcases (show i = 0 ∨ i = 1 by omega) with rfl | rfl <;> rfl
theorem y_tt (X : Xs) {i : Nat} (hi : i < 2) (T T' : Ts) : yTab (yTab X i T) i T' = yTab X i T' := by
  rcases (show i = 0 ∨ i = 1 by omega) with rfl | rfl <;> rfl
theorem nw6 {i : Nat} (hi : i < 10) : 7 + 6 * i + 6 ≤ NW := by show _ ≤ 77; omega
theorem nwz {i : Nat} (hi : i < 10) : 7 + 6 * i < NW := by show _ < 77; omega
theorem xmv_y (X : Xs) {i : Nat} (hi : i < 2) (f : Nat → Int32) (T : Ts) : Xmv (yTab (yMv X f) i T) = f := by
  rcases (show i = 0 ∨ i = 1 by omega) with rfl | rfl <;> rfl
theorem nI_ne6 {k : Nat} (h : k < 1000000) : ¬ nI k = -6 := by
  intro e
  have h1 := congrArg Int32.toInt e
  rw [nI_toInt (by omega)] at h1
  have : (-6 : Int32).toInt = -6 := by decide
  omega
