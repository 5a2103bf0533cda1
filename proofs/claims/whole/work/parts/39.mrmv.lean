theorem MR_mv {st : Nat → Int32} {γ : Gm} {f t : Nat} (R : MR st γ) (G : GI γ) (hf : f < 22) (ht : t < 22) (hft : f ≠ t) (h0 : 0 < qn γ f) : MR (upd (upd st (topK γ f) (nI t)) (104 + topK γ f) (nI (qn γ t))) (mvN γ f t, mvC γ f t, γ.2.2) := by
  have hk := G_k G hf h0
  have far : ∀ j, 208 ≤ j → upd (upd st (topK γ f) (nI t)) (104 + topK γ f) (nI (qn γ t)) j = st j := by
    intro j hj
    unfold upd
    rw [if_neg (by omega), if_neg (by omega)]
  obtain ⟨r1, r2, r3, r4, r5, r6, r7⟩ := R
  refine ⟨?_, fun s hs => ?_, fun h hh => ?_, ?_, ?_, ?_, ?_⟩
  · intro p i hp hi
    rcases mv_old hft hi with ⟨b1, b2, e⟩ | ⟨b1, b2, b3, e⟩
    · show upd (upd st _ _) _ _ (mvC γ f t p i) = _ ∧ upd (upd st _ _) _ _ (104 + mvC γ f t p i) = _
      rw [e]
      unfold upd
      rw [if_neg (by omega), if_pos rfl, if_pos rfl, b1, b2]
      exact ⟨rfl, rfl⟩
    · show upd (upd st _ _) _ _ (mvC γ f t p i) = _ ∧ upd (upd st _ _) _ _ (104 + mvC γ f t p i) = _
      rw [e]
      have hc := G_c G hp b1
      have hne : ¬ qc γ p i = topK γ f := fun z => b2 (G.1.2.1 p f i _ hp hf b1 (by omega) z)
      unfold upd
      rw [if_neg (by omega), if_neg hne, if_neg (by omega), if_neg (by omega)]
      exact r1 p i hp b1
  · rw [far _ (by omega), far _ (by omega)]; exact r2 s hs
  · rw [far _ (by omega)]; exact r3 h hh
  · rw [far _ (by omega)]; exact r4
  · rw [far _ (by omega)]; exact r5
  · rw [far _ (by omega)]; exact r6
  · rw [far _ (by omega)]; exact r7
/-- the other numbers of the row, with the cards as they are -/
theorem MR_put {st st' : Nat → Int32} {γ : Gm} (R : MR st γ) (G : GI γ) {n : Nat → Nat} {c : Nat → Nat → Nat} {pt : Nat → Int32} {fz zd : Nat → Nat} {tn dr : Nat} {mv : Int32} {ob : Bool} (hn : n = qn γ) (hc : c = qc γ) (h0 : ∀ j, j < 208 → st' j = st j)
    (h1 : ∀ s, s < 2 → st' (208 + s) = pt s) (h2 : ∀ s, s < 2 → st' (210 + s) = nI (fz s)) (h3 : ∀ k, k < 8 → st' (212 + k) = nI (zd k)) (h4 : st' 220 = nI tn) (h5 : st' 221 = b2i ob) (h6 : st' 222 = nI dr) (h7 : st' 223 = mv) : MR st' (n, c, pt, fz, zd, tn, dr, mv, ob) := by
  subst hn; subst hc
  refine ⟨fun p i hp hi => ?_, fun s hs => ⟨h1 s hs, h2 s hs⟩, h3, h4, h5, h6, h7⟩
  have hk := G_c G hp hi
  show st' (qc γ p i) = _ ∧ st' (104 + qc γ p i) = _
  rw [h0 _ (by omega), h0 _ (by omega)]
  exact R.1 p i hp hi
theorem MR_cong {st st' : Nat → Int32} {γ : Gm} (R : MR st γ) (G : GI γ) (h : ∀ j, j < 224 → st' j = st j) : MR st' γ := by
  obtain ⟨r1, r2, r3, r4, r5, r6, r7⟩ := R
  refine ⟨fun p i hp hi => ?_, fun s hs => ?_, fun k hk => ?_, ?_, ?_, ?_, ?_⟩
  · have hk := G_c G hp hi
    rw [h _ (by omega), h _ (by omega)]; exact r1 p i hp hi
  · rw [h _ (by omega), h _ (by omega)]; exact r2 s hs
  · rw [h _ (by omega)]; exact r3 k hk
  · rw [h _ (by omega)]; exact r4
  · rw [h _ (by omega)]; exact r5
  · rw [h _ (by omega)]; exact r6
  · rw [h _ (by omega)]; exact r7
/-- the reference's row while the waste is turned over -/
def TNI (γ : Gm) (P I : Nat → Nat) (st st' : Nat → Int32) (k : Nat) : Prop :=
  (∀ c, c < 104 → st' c = nI (if P c = 2 + qt γ ∧ c < k then 4 + qt γ else P c) ∧ st' (104 + c) = nI (if P c = 2 + qt γ ∧ c < k then qn γ (2 + qt γ) - 1 - I c else I c)) ∧ ∀ j, 208 ≤ j → st' j = st j
theorem TNI_0 {γ : Gm} {P I : Nat → Nat} {st : Nat → Int32} (R : MR st γ) (h : LocG γ P I) : TNI γ P I st st 0 := by
  refine ⟨fun c hc => ?_, fun _ _ => rfl⟩
  rw [if_neg (fun z => absurd z.2 (Nat.not_lt_zero _)), if_neg (fun z => absurd z.2 (Nat.not_lt_zero _))]
  exact loc_st R h hc
theorem TNI_y {γ : Gm} {P I : Nat → Nat} {st st' : Nat → Int32} {k : Nat} (h : TNI γ P I st st' k) (hk : k < 104) (hp : P k = 2 + qt γ) : TNI γ P I st (upd (upd st' k (nI (4 + qt γ))) (104 + k) (nI (qn γ (2 + qt γ) - 1 - I k))) (k + 1) := by
  refine ⟨fun c hc => ?_, fun j hj => ?_⟩
  · obtain ⟨a, b⟩ := h.1 c hc
    by_cases z : c = k
    · subst z
      rw [pk_un (show c ≠ 104 + c by omega), pk_us, pk_us, if_pos ⟨hp, Nat.lt_succ_self _⟩, if_pos ⟨hp, Nat.lt_succ_self _⟩]
      exact ⟨rfl, rfl⟩
    · rw [pk_un (show c ≠ 104 + k by omega), pk_un z, pk_un (show 104 + c ≠ 104 + k by omega), pk_un (show 104 + c ≠ k by omega), a, b]
      have e : (P c = 2 + qt γ ∧ c < k + 1) ↔ (P c = 2 + qt γ ∧ c < k) := by constructor <;> (rintro ⟨x, y⟩; exact ⟨x, by omega⟩)
      constructor
      · congr 1
        by_cases y : P c = 2 + qt γ ∧ c < k
        · rw [if_pos y, if_pos (e.mpr y)]
        · rw [if_neg y, if_neg (fun q => y (e.mp q))]
      · congr 1
        by_cases y : P c = 2 + qt γ ∧ c < k
        · rw [if_pos y, if_pos (e.mpr y)]
        · rw [if_neg y, if_neg (fun q => y (e.mp q))]
  · unfold upd
    rw [if_neg (by omega), if_neg (by omega)]
    exact h.2 j hj
theorem TNI_n {γ : Gm} {P I : Nat → Nat} {st st' : Nat → Int32} {k : Nat} (h : TNI γ P I st st' k) (hp : ¬ P k = 2 + qt γ) : TNI γ P I st st' (k + 1) := by
  refine ⟨fun c hc => ?_, h.2⟩
  obtain ⟨a, b⟩ := h.1 c hc
  have e : (P c = 2 + qt γ ∧ c < k + 1) ↔ (P c = 2 + qt γ ∧ c < k) := by
    constructor
    · rintro ⟨x, y⟩
      rcases Nat.lt_or_ge c k with z | z
      · exact ⟨x, z⟩
      · rw [show c = k by omega] at x; exact absurd x hp
    · rintro ⟨x, y⟩; exact ⟨x, by omega⟩
  rw [a, b]
  constructor
  · congr 1
    by_cases y : P c = 2 + qt γ ∧ c < k
    · rw [if_pos y, if_pos (e.mpr y)]
    · rw [if_neg y, if_neg (fun q => y (e.mp q))]
  · congr 1
    by_cases y : P c = 2 + qt γ ∧ c < k
    · rw [if_pos y, if_pos (e.mpr y)]
    · rw [if_neg y, if_neg (fun q => y (e.mp q))]
theorem TNI_end {γ : Gm} {P I : Nat → Nat} {st st' : Nat → Int32} (R : MR st γ) (G : GI γ) (hL : LocG γ P I) (h : TNI γ P I st st' 104) (h0 : qn γ (4 + qt γ) = 0) : MR st' (turnG γ) := by
  have e2 := G_t G
  have far := h.2
  obtain ⟨r1, r2, r3, r4, r5, r6, r7⟩ := R
  unfold turnG
  rw [if_pos h0]
  refine ⟨?_, fun s hs => by rw [far _ (by omega), far _ (by omega)]; exact r2 s hs, fun k hk => by rw [far _ (by omega)]; exact r3 k hk, by rw [far _ (by omega)]; exact r4, by rw [far _ (by omega)]; exact r5, by rw [far _ (by omega)]; exact r6, by rw [far _ (by omega)]; exact r7⟩
  intro p i hp hi
  have hi' : i < (if p = 4 + qt γ then qn γ (2 + qt γ) else if p = 2 + qt γ then 0 else qn γ p) := hi
  show st' (if p = 4 + qt γ then qc γ (2 + qt γ) (qn γ (2 + qt γ) - 1 - i) else qc γ p i) = nI p ∧ st' (104 + (if p = 4 + qt γ then qc γ (2 + qt γ) (qn γ (2 + qt γ) - 1 - i) else qc γ p i)) = nI i
  by_cases h1 : p = 4 + qt γ
  · rw [if_pos h1] at hi'
    rw [if_pos h1]
    have hlt : qn γ (2 + qt γ) - 1 - i < qn γ (2 + qt γ) := by omega
    obtain ⟨a, b⟩ := loc_u G hL (show 2 + qt γ < 22 by omega) hlt
    have hc := G_c G (show 2 + qt γ < 22 by omega) hlt
    obtain ⟨q1, q2⟩ := h.1 _ hc
    rw [if_pos ⟨a, hc⟩] at q1 q2
    rw [q1, q2, b, h1]
    exact ⟨rfl, by congr 1; omega⟩
  · rw [if_neg h1] at hi'
    rw [if_neg h1]
    by_cases h3 : p = 2 + qt γ
    · rw [if_pos h3] at hi'; omega
    · rw [if_neg h3] at hi'
      obtain ⟨a, b⟩ := loc_u G hL hp hi'
      have hc := G_c G hp hi'
      obtain ⟨q1, q2⟩ := h.1 _ hc
      rw [if_neg (fun z => h3 (a.symm.trans z.1))] at q1 q2
      rw [q1, q2, a, b]
      exact ⟨rfl, rfl⟩
theorem LK_2 {M : Ms} {γ γ' : Gm} (h : LK M γ) (h1 : qn γ' = qn γ) (h2 : qc γ' = qc γ) : LK M γ' := by
  intro p hp
  have := h p hp
  unfold topO at this ⊢
  rw [h1, h2]
  exact this
theorem pts_ref {γ : Gm} {f u : Nat} (G : GI γ) (hk : okG γ f u = true) : ptsG γ f u = if 14 ≤ u then (if f < 2 then 3 else if isH f = true ∧ (f - 6) / 4 ≠ qt γ then 2 else 1) else (if f < 2 then 2 else if isH u = true then 0 else 1) := by
  have e2 := G_t G
  obtain ⟨h1, h2, h3, h4⟩ := okG_spec hk
  have e : (f = qt γ) ↔ f < 2 := by omega
  unfold ptsG
  by_cases a : 14 ≤ u
  · rw [if_pos a, if_pos a]
    by_cases b : f < 2
    · rw [if_pos b, if_pos (e.mpr b)]
    · rw [if_neg b, if_neg (fun z => b (e.mp z))]
  · rw [if_neg a, if_neg a]
    by_cases b : f < 2
    · rw [if_pos b, if_pos (e.mpr b)]
    · rw [if_neg b, if_neg (fun z => b (e.mp z))]
      rcases h4 with h4 | h4 | h4
      · rw [if_neg (by omega), if_pos (by simp only [isH, decide_eq_true_eq]; omega)]
      · omega
      · rw [if_pos h4.2.1, if_neg (by simp only [isH, decide_eq_true_eq]; omega)]
