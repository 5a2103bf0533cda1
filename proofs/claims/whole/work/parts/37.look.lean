def cntG (P : Nat → Bool) : Nat → Nat
  | 0 => 0
  | k + 1 => if P k = true then cntG P k + 1 else cntG P k
theorem cnt_cong {P Q : Nat → Bool} : ∀ {k : Nat}, (∀ c, c < k → P c = Q c) → cntG P k = cntG Q k
  | 0, _ => rfl
  | k + 1, h => by
    have a := cnt_cong (P := P) (Q := Q) (k := k) (fun c hc => h c (by omega))
    simp only [cntG]
    rw [a, h k (by omega)]
theorem cnt_add {P Q : Nat → Bool} : ∀ {k : Nat}, (∀ c, c < k → ¬ (P c = true ∧ Q c = true)) → cntG (fun c => P c || Q c) k = cntG P k + cntG Q k
  | 0, _ => rfl
  | k + 1, h => by
    have a := cnt_add (P := P) (Q := Q) (k := k) (fun c hc => h c (by omega))
    have b := h k (by omega)
    simp only [cntG]
    rw [a]
    by_cases hp : P k = true
    · by_cases hq : Q k = true
      · exact absurd ⟨hp, hq⟩ b
      · rw [if_pos (by rw [hp]; rfl), if_pos hp, if_neg hq]; omega
    · by_cases hq : Q k = true
      · rw [if_pos (by rw [hq, Bool.or_true]), if_neg hp, if_pos hq]; omega
      · rw [if_neg (by simp [hp, hq]), if_neg hp, if_neg hq]
theorem cnt_0 {P : Nat → Bool} : ∀ {k : Nat}, (∀ c, c < k → P c = false) → cntG P k = 0
  | 0, _ => rfl
  | k + 1, h => by
    simp only [cntG]
    rw [if_neg (by rw [h k (by omega)]; decide), cnt_0 (fun c hc => h c (by omega))]
theorem cnt_1 {P : Nat → Bool} {c0 : Nat} : ∀ {k : Nat}, c0 < k → P c0 = true → (∀ c, c < k → P c = true → c = c0) → cntG P k = 1
  | k + 1, h, h1, h2 => by
    simp only [cntG]
    by_cases z : c0 = k
    · subst z
      rw [if_pos h1, cnt_0]
      intro c hc
      cases hp : P c
      · rfl
      · exact absurd (h2 c (by omega) hp) (by omega)
    · rw [if_neg (fun y => z (h2 k (by omega) y).symm)]
      exact cnt_1 (by omega) h1 (fun c hc y => h2 c (by omega) y)
/-- where the cards lie -/
def LocG (γ : Gm) (P I : Nat → Nat) : Prop := ∀ c, c < 104 → P c < 22 ∧ I c < qn γ (P c) ∧ qc γ (P c) (I c) = c
theorem loc_ex {γ : Gm} (G : GI γ) : ∃ P I, LocG γ P I := by
  have h : ∀ c : Nat, ∃ z : Nat × Nat, c < 104 → z.1 < 22 ∧ z.2 < qn γ z.1 ∧ qc γ z.1 z.2 = c := by
    intro c
    by_cases hc : c < 104
    · obtain ⟨p, i, a, b, d⟩ := G.1.2.2.1 c hc
      exact ⟨(p, i), fun _ => ⟨a, b, d⟩⟩
    · exact ⟨(0, 0), fun z => absurd z hc⟩
  obtain ⟨f, hf⟩ := Classical.axiomOfChoice h
  exact ⟨fun c => (f c).1, fun c => (f c).2, fun c hc => hf c hc⟩
theorem loc_u {γ : Gm} {P I : Nat → Nat} (G : GI γ) (h : LocG γ P I) {p i : Nat} (hp : p < 22) (hi : i < qn γ p) : P (qc γ p i) = p ∧ I (qc γ p i) = i := by
  obtain ⟨a, b, c⟩ := h _ (G_c G hp hi)
  have := G.1.2.1 _ _ _ _ a hp b hi c
  exact this
theorem loc_st {st : Nat → Int32} {γ : Gm} {P I : Nat → Nat} (R : MR st γ) (h : LocG γ P I) {c : Nat} (hc : c < 104) : st c = nI (P c) ∧ st (104 + c) = nI (I c) := by
  obtain ⟨a, b, d⟩ := h c hc
  have := M_pl R a b
  rw [d] at this
  exact this
theorem loc_cnt {γ : Gm} {P I : Nat → Nat} (G : GI γ) (h : LocG γ P I) {p : Nat} (hp : p < 22) : cntG (fun c => P c == p) 104 = qn γ p := by
  have key : ∀ m, m ≤ qn γ p → cntG (fun c => (P c == p) && decide (I c < m)) 104 = m := by
    intro m
    induction m with
    | zero =>
      intro _
      exact cnt_0 (fun c hc => by simp)
    | succ m ih =>
      intro hm
      have e : cntG (fun c => (P c == p) && decide (I c < m + 1)) 104 = cntG (fun c => ((P c == p) && decide (I c < m)) || ((P c == p) && (I c == m))) 104 := by
        refine cnt_cong (fun c hc => ?_)
        cases (P c == p)
        · rfl
        · simp only [Bool.true_and]
          by_cases z : I c = m
          · simp [z]
          · by_cases z2 : I c < m
            · simp [z2]; omega
            · have : ¬ I c < m + 1 := by omega
              simp [z, z2, this]
      rw [e, cnt_add, ih (by omega)]
      · congr 1
        refine cnt_1 (c0 := qc γ p m) (G_c G hp (by omega)) ?_ ?_
        · obtain ⟨a, b⟩ := loc_u G h hp (show m < qn γ p by omega)
          simp [a, b]
        · intro c hc hcp
          simp only [Bool.and_eq_true, beq_iff_eq] at hcp
          have := (h c hc).2.2
          rw [hcp.1, hcp.2] at this
          exact this.symm
      · rintro c hc ⟨a, b⟩
        simp only [Bool.and_eq_true, beq_iff_eq, decide_eq_true_eq] at a b
        omega
  have a := key (qn γ p) (Nat.le_refl _)
  rw [← a]
  refine cnt_cong (fun c hc => ?_)
  by_cases z : P c = p
  · have := (h c hc).2.1
    rw [z] at this
    simp [z, this]
  · simp [z]
def bstG (P I : Nat → Nat) (p : Nat) : Nat → Option Nat
  | 0 => none
  | k + 1 => if P k = p then (match bstG P I p k with
    | none => some k
    | some t => if I t < I k then some k else some t) else bstG P I p k
theorem bst_ok {P I : Nat → Nat} {p : Nat} : ∀ k, match bstG P I p k with
    | none => ∀ c, c < k → P c ≠ p
    | some t => t < k ∧ P t = p ∧ ∀ c, c < k → P c = p → I c ≤ I t
  | 0 => fun c hc => absurd hc (Nat.not_lt_zero _)
  | k + 1 => by
    have a := bst_ok (P := P) (I := I) (p := p) k
    unfold bstG
    by_cases hk : P k = p
    · rw [if_pos hk]
      cases hb : bstG P I p k with
      | none =>
        rw [hb] at a
        refine ⟨Nat.lt_succ_self k, hk, fun c hc hcp => ?_⟩
        rcases Nat.lt_or_ge c k with z | z
        · exact absurd hcp (a c z)
        · rw [show c = k by omega]; exact Nat.le_refl _
      | some t =>
        rw [hb] at a
        obtain ⟨a1, a2, a3⟩ := a
        show match (if I t < I k then some k else some t) with
          | none => ∀ c, c < k + 1 → P c ≠ p
          | some t => t < k + 1 ∧ P t = p ∧ ∀ c, c < k + 1 → P c = p → I c ≤ I t
        by_cases hi : I t < I k
        · rw [if_pos hi]
          refine ⟨Nat.lt_succ_self k, hk, fun c hc hcp => ?_⟩
          rcases Nat.lt_or_ge c k with z | z
          · have := a3 c z hcp; omega
          · rw [show c = k by omega]; exact Nat.le_refl _
        · rw [if_neg hi]
          refine ⟨by omega, a2, fun c hc hcp => ?_⟩
          rcases Nat.lt_or_ge c k with z | z
          · exact a3 c z hcp
          · rw [show c = k by omega]; omega
    · rw [if_neg hk]
      cases hb : bstG P I p k with
      | none =>
        rw [hb] at a
        intro c hc
        rcases Nat.lt_or_ge c k with z | z
        · exact a c z
        · rw [show c = k by omega]; exact hk
      | some t =>
        rw [hb] at a
        refine ⟨by omega, a.2.1, fun c hc hcp => ?_⟩
        rcases Nat.lt_or_ge c k with z | z
        · exact a.2.2 c z hcp
        · rw [show c = k by omega] at hcp; exact absurd hcp hk
theorem bst_end {γ : Gm} {P I : Nat → Nat} (G : GI γ) (h : LocG γ P I) {p : Nat} (hp : p < 22) : bstG P I p 104 = topO γ p := by
  have a := bst_ok (P := P) (I := I) (p := p) 104
  by_cases hn : qn γ p = 0
  · rw [topO_0 hn]
    cases hb : bstG P I p 104 with
    | none => rfl
    | some t =>
      rw [hb] at a
      have := (h t a.1).2.1
      rw [a.2.1, hn] at this
      omega
  · rw [topO_k (by omega)]
    obtain ⟨b1, b2⟩ := loc_u G h hp (show qn γ p - 1 < qn γ p by omega)
    have hc := G_c G hp (show qn γ p - 1 < qn γ p by omega)
    cases hb : bstG P I p 104 with
    | none => rw [hb] at a; exact absurd b1 (a _ hc)
    | some t =>
      rw [hb] at a
      obtain ⟨a1, a2, a3⟩ := a
      have d := a3 _ hc b1
      rw [b2] at d
      obtain ⟨e1, e2, e3⟩ := h t a1
      rw [a2] at e2 e3
      rw [show I t = qn γ p - 1 by omega] at e3
      rw [← e3]; rfl
theorem cnt_le (P : Nat → Bool) : ∀ k, cntG P k ≤ k
  | 0 => Nat.le_refl _
  | k + 1 => by
    have := cnt_le P k
    simp only [cntG]; split <;> omega
def LKI (P I : Nat → Nat) (k : Nat) (sz tp : Nat → Int32) : Prop := ∀ p, p < 22 → sz p = nI (cntG (fun c => P c == p) k) ∧ tp p = ov (bstG P I p k)
theorem LKI_s {P I : Nat → Nat} {k : Nat} {sz tp : Nat → Int32} {v : Int32} (h : LKI P I k sz tp) (hP : P k < 22) (hv : v = ov (bstG P I (P k) (k + 1))) : LKI P I (k + 1) (upd sz (P k) (sz (P k) + 1)) (upd tp (P k) v) := by
  intro p hp
  unfold upd
  by_cases z : p = P k
  · rw [if_pos z, if_pos z, z]
    refine ⟨?_, hv⟩
    rw [(h _ hP).1, nI_1]
    simp [cntG]
  · rw [if_neg z, if_neg z, (h p hp).1, (h p hp).2]
    have z2 : ¬ P k = p := fun y => z y.symm
    constructor
    · simp [cntG, z2]
    · show _ = ov (if P k = p then _ else bstG P I p k)
      rw [if_neg z2]
theorem bst_s {P I : Nat → Nat} {k : Nat} : bstG P I (P k) (k + 1) = match bstG P I (P k) k with
    | none => some k
    | some t => if I t < I k then some k else some t := by
  rw [bstG, if_pos rfl]
theorem give_e (γ : Gm) (f : Nat) : mayGiveG γ f = (!qo γ && (decide (0 < qn γ f) && leaveG γ f)) := by
  unfold mayGiveG leaveG frozG
  cases isH f
  · simp
  · cases hz : (qz γ (f - 6) == 0)
    · have : ¬ qz γ (f - 6) = 0 := by rw [beq_eq_false_iff_ne] at hz; exact hz
      have h2 : decide (0 < qz γ (f - 6)) = true := decide_eq_true (by omega)
      simp [h2]
    · have : qz γ (f - 6) = 0 := by rw [beq_iff_eq] at hz; exact hz
      simp [this]
theorem take_H {γ : Gm} {t k : Nat} (h : isH t = true) : mayTakeG γ t k = (!frozG γ t && fH k (topO γ t)) := by
  rw [mayTake_H h]
  unfold frozG
  rw [h]
  congr 1
  cases hz : (qz γ (t - 6) == 0)
  · have : ¬ qz γ (t - 6) = 0 := by rw [beq_eq_false_iff_ne] at hz; exact hz
    rw [decide_eq_true (show 0 < qz γ (t - 6) by omega)]; rfl
  · have : qz γ (t - 6) = 0 := by rw [beq_iff_eq] at hz; exact hz
    rw [this]; rfl
theorem mayTake_0 {γ : Gm} {t k : Nat} (h : isH t = false) (h2 : t < 14) : mayTakeG γ t k = (t == 3 - qt γ && fW k (topO γ t)) := by
  unfold mayTakeG; rw [h, decide_eq_false (by omega)]; rfl
