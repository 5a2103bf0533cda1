def PK (s : Nat) (f : Nat → Nat) : Prop := (∀ i, i < 52 → 52 * s ≤ f i ∧ f i < 52 * s + 52) ∧ (∀ i j, i < 52 → j < 52 → f i = f j → i = j) ∧ (∀ k, 52 * s ≤ k → k < 52 * s + 52 → ∃ i, i < 52 ∧ f i = k)
theorem PK_swap {s : Nat} {f : Nat → Nat} (h : PK s f) {a b : Nat} (ha : a < 52) (hb : b < 52) : PK s (swapF f a b) := by
  obtain ⟨h1, h2, h3⟩ := h
  have val : ∀ k, k < 52 → ∃ k', k' < 52 ∧ swapF f a b k = f k' ∧ ((k = b ∧ k' = a) ∨ (k ≠ b ∧ k = a ∧ k' = b) ∨ (k ≠ b ∧ k ≠ a ∧ k' = k)) := by
    intro k hk
    unfold swapF
    by_cases z1 : k = b
    · exact ⟨a, ha, by rw [if_pos z1], Or.inl ⟨z1, rfl⟩⟩
    · rw [if_neg z1]
      by_cases z2 : k = a
      · exact ⟨b, hb, by rw [if_pos z2], Or.inr (Or.inl ⟨z1, z2, rfl⟩)⟩
      · exact ⟨k, hk, by rw [if_neg z2], Or.inr (Or.inr ⟨z1, z2, rfl⟩)⟩
  refine ⟨?_, ?_, ?_⟩
  · intro i hi
    obtain ⟨k, hk, e, -⟩ := val i hi
    rw [e]; exact h1 k hk
  · intro i j hi hj e
    obtain ⟨k, hk, e1, r1⟩ := val i hi
    obtain ⟨l, hl, e2, r2⟩ := val j hj
    have := h2 k l hk hl (by rw [← e1, ← e2]; exact e)
    omega
  · intro k hk1 hk2
    obtain ⟨i, hi, e⟩ := h3 k hk1 hk2
    by_cases z1 : i = a
    · refine ⟨b, hb, ?_⟩
      unfold swapF; rw [if_pos rfl, ← z1]; exact e
    · by_cases z2 : i = b
      · refine ⟨a, ha, ?_⟩
        unfold swapF
        by_cases z3 : a = b
        · exact absurd (z2.trans z3.symm) z1
        · rw [if_neg z3, if_pos rfl, ← z2]; exact e
      · refine ⟨i, hi, ?_⟩
        unfold swapF; rw [if_neg z2, if_neg z1]; exact e
theorem lcg_lt (x : Nat) : lcg x < 2147483648 := Nat.mod_lt _ (by decide)
theorem PK_shuf {s : Nat} : ∀ (k : Nat) (a : (Nat → Nat) × Nat), k < 52 → PK s a.1 → PK s (shufG k a).1
  | 0, _, _, h => h
  | k + 1, a, hk, h => PK_shuf k _ (by omega) (PK_swap h (by omega) (by have := Nat.mod_lt (lcg a.2 / 65536) (show k + 2 > 0 by omega); omega))
theorem PK_id (s : Nat) : PK s (fun k => 52 * s + k) := by
  refine ⟨?_, ?_, ?_⟩
  · intro i hi; show 52 * s ≤ 52 * s + i ∧ 52 * s + i < 52 * s + 52; omega
  · intro i j hi hj e
    have e : 52 * s + i = 52 * s + j := e
    omega
  · intro k h1 h2; exact ⟨k - 52 * s, by omega, by show 52 * s + (k - 52 * s) = k; omega⟩
theorem PK_pack (x : Nat) {s : Nat} (hs : s < 2) : PK s (packG x s) := by
  unfold packG
  by_cases h : s = 0
  · subst h
    rw [if_pos rfl]
    have a := PK_id 0
    simp only [Nat.mul_zero, Nat.zero_add] at a
    exact PK_shuf 51 ((fun k => k), x) (by decide) a
  · have h1 : s = 1 := by omega
    subst h1
    rw [if_neg (by decide)]
    exact PK_shuf 51 ((fun k => 52 + k), (pack0 x).2) (by decide) (PK_id 1)
def sdG (p : Nat) : Nat := if p < 2 then p else if p < 6 then p - 4 else (p - 6) / 4
def ixG (p i : Nat) : Nat := if p < 2 then i else if p < 6 then 17 + i else 13 + (p - 6) % 4
theorem dealC_e (x p i : Nat) : dealC x p i = packG x (sdG p) (ixG p i) := by
  unfold dealC sdG ixG
  by_cases h1 : p < 2
  · rw [if_pos h1, if_pos h1, if_pos h1]
  · rw [if_neg h1, if_neg h1, if_neg h1]
    by_cases h2 : p < 6
    · rw [if_pos h2, if_pos h2, if_pos h2]
    · rw [if_neg h2, if_neg h2, if_neg h2]
theorem deal_ix {p i : Nat} (hp : p < 22) (hi : i < dealN p) : sdG p < 2 ∧ ixG p i < 52 ∧ ((p < 2 ∧ sdG p = p ∧ ixG p i = i ∧ i < 13) ∨ (4 ≤ p ∧ p < 6 ∧ sdG p = p - 4 ∧ ixG p i = 17 + i ∧ i < 35) ∨ (6 ≤ p ∧ p < 14 ∧ sdG p = (p - 6) / 4 ∧ ixG p i = 13 + (p - 6) % 4 ∧ i = 0)) := by
  unfold dealN at hi
  unfold sdG ixG
  by_cases h1 : p < 2
  · rw [if_pos h1] at hi ⊢; rw [if_pos h1]; exact ⟨h1, by omega, Or.inl ⟨h1, rfl, rfl, hi⟩⟩
  · rw [if_neg h1] at hi ⊢
    rw [if_neg h1]
    by_cases h3 : p < 4
    · rw [if_pos h3] at hi; omega
    · rw [if_neg h3] at hi
      by_cases h2 : p < 6
      · rw [if_pos h2] at hi ⊢; rw [if_pos h2]; exact ⟨by omega, by omega, Or.inr (Or.inl ⟨by omega, h2, rfl, rfl, hi⟩)⟩
      · rw [if_neg h2] at hi ⊢; rw [if_neg h2]
        by_cases h4 : p < 14
        · rw [if_pos h4] at hi; exact ⟨by omega, by omega, Or.inr (Or.inr ⟨by omega, h4, rfl, rfl, by omega⟩)⟩
        · rw [if_neg h4] at hi; omega
theorem PI_deal (x : Nat) : PI dealN (dealC x) := by
  refine ⟨?_, ?_, ?_, by decide, ?_, ?_, ?_⟩
  · intro p i hp hi
    obtain ⟨a1, a2, -⟩ := deal_ix hp hi
    rw [dealC_e]
    have := (PK_pack x a1).1 _ a2
    omega
  · intro p q i j hp hq hi hj e
    obtain ⟨a1, a2, a3⟩ := deal_ix hp hi
    obtain ⟨b1, b2, b3⟩ := deal_ix hq hj
    rw [dealC_e, dealC_e] at e
    have r1 := (PK_pack x a1).1 _ a2
    have r2 := (PK_pack x b1).1 _ b2
    have hs : sdG p = sdG q := by omega
    rw [hs] at e
    have := (PK_pack x b1).2.1 _ _ a2 b2 e
    omega
  · intro k hk
    obtain ⟨s, hs, h1, h2⟩ : ∃ s, s < 2 ∧ 52 * s ≤ k ∧ k < 52 * s + 52 := by
      rcases Nat.lt_or_ge k 52 with z | z
      · exact ⟨0, by decide, by omega, by omega⟩
      · exact ⟨1, by decide, by omega, by omega⟩
    obtain ⟨j, hj, e⟩ := (PK_pack x hs).2.2 k h1 h2
    rcases Nat.lt_or_ge j 13 with z | z
    · refine ⟨s, j, by omega, by unfold dealN; rw [if_pos hs]; exact z, ?_⟩
      rw [dealC_e, show sdG s = s by unfold sdG; rw [if_pos hs], show ixG s j = j by unfold ixG; rw [if_pos hs]]; exact e
    · rcases Nat.lt_or_ge j 17 with z2 | z2
      · refine ⟨6 + 4 * s + (j - 13), 0, by omega, by unfold dealN; rw [if_neg (by omega), if_neg (by omega), if_neg (by omega), if_pos (by omega)]; decide, ?_⟩
        rw [dealC_e, show sdG (6 + 4 * s + (j - 13)) = s by unfold sdG; rw [if_neg (by omega), if_neg (by omega)]; omega, show ixG (6 + 4 * s + (j - 13)) 0 = j by unfold ixG; rw [if_neg (by omega), if_neg (by omega)]; omega]
        exact e
      · refine ⟨4 + s, j - 17, by omega, by unfold dealN; rw [if_neg (by omega), if_neg (by omega), if_pos (by omega)]; omega, ?_⟩
        rw [dealC_e, show sdG (4 + s) = s by unfold sdG; rw [if_neg (by omega), if_pos (by omega)]; omega, show ixG (4 + s) (j - 17) = j by unfold ixG; rw [if_neg (by omega), if_pos (by omega)]; omega]
        exact e
  · intro p i h6 h14 hi
    unfold dealN at hi
    rw [if_neg (by omega), if_neg (by omega), if_neg (by omega), if_pos h14] at hi
    omega
  · intro p i h14 h22 hi
    unfold dealN at hi
    rw [if_neg (by omega), if_neg (by omega), if_neg (by omega), if_neg (by omega)] at hi
    omega
  · intro p hp
    unfold dealN; rw [if_pos hp]; decide
theorem GI_deal (x : Nat) : GI (dealG x) := ⟨PI_deal x, (show 0 < 2 by decide), fun _ _ => Nat.le_refl _, fun _ _ => Nat.zero_le _, Nat.zero_le _, fun h => absurd (show 0 = 200 from h) (by decide)⟩
-- a table while it is dealt: the piles but for the hand of the side s, that hand's size, its raw row of cards from lo to hi
def DS (T : Ts) (s x : Nat) (n : Nat → Nat) (m lo hi : Nat) (f : Nat → Nat) : Prop :=
  (∀ p, p < 22 → p ≠ 4 + s → Tsz T p = nI (n p)) ∧ Tsz T (4 + s) = nI m ∧ (∀ p i, p < 22 → p ≠ 4 + s → i < n p → Tcd T (fpv p + i) = nI (dealC x p i)) ∧ (∀ i, lo ≤ i → i < hi → Tcd T (fpv (4 + s) + i) = nI (f i))
/-- the numbers of a table that is dealt anew -/
def CL (T : Ts) : Prop := (∀ s, s < 2 → Tpt T s = 0 ∧ Tfz T s = nI 2) ∧ (∀ h, h < 8 → Tth T h = nI 0) ∧ Ttp T = nI 0 ∧ Tdr T = nI 0 ∧ Tmv T = 0 ∧ Tov T = 0
/-- before the side s is dealt -/
def sideN (s p : Nat) : Nat := if s = 0 then 0 else if sdG p = 0 ∧ p ≠ 2 ∧ p ≠ 3 then dealN p else 0
/-- when k cards of the side s lie -/
def outN (s k p : Nat) : Nat := if p = s then min k 13 else if 6 + 4 * s ≤ p ∧ p < 10 + 4 * s then (if p - (6 + 4 * s) + 13 < k then 1 else 0) else sideN s p
theorem hand_f {s : Nat} (hs : s < 2) {i : Nat} (hi : i < 104) : fpv (4 + s) + i < 650 := by
  have := fpv_cap (p := 4 + s) (by omega)
  unfold cap at this
  rw [if_pos (by omega)] at this
  omega
theorem hand_ne {s p i j : Nat} (hs : s < 2) (hp : p < 22) (hne : p ≠ 4 + s) (hi : i < cap p) (hj : j < 104) : fpv p + i ≠ fpv (4 + s) + j := by
  intro e
  have := fpv_inj hp (show 4 + s < 22 by omega) hi (by unfold cap; rw [if_pos (by omega)]; exact hj) e
  exact hne this.1
/-- while the side s is dealt out of its shuffled pack P, k cards lie -/
def DSO (T : Ts) (s x k : Nat) : Prop :=
  (∀ p, p < 22 → p ≠ 4 + s → Tsz T p = nI (outN s k p)) ∧ Tsz T (4 + s) = nI (k - 17) ∧ (∀ p i, p < 22 → p ≠ 4 + s → i < outN s k p → Tcd T (fpv p + i) = nI (dealC x p i)) ∧
  (∀ j, k ≤ j → j < 52 → Tcd T (fpv (4 + s) + j) = nI (packG x s j)) ∧ (∀ i, i < k - 17 → Tcd T (fpv (4 + s) + i) = nI (packG x s (17 + i)))
theorem sideN_cap {s p : Nat} (hp : p < 22) : sideN s p ≤ cap p := by
  unfold sideN
  by_cases h : s = 0
  · rw [if_pos h]; exact Nat.zero_le _
  · rw [if_neg h]
    by_cases h2 : sdG p = 0 ∧ p ≠ 2 ∧ p ≠ 3
    · rw [if_pos h2]; unfold dealN cap
      by_cases a : p < 2
      · rw [if_pos a, if_neg (by omega)]; decide
      · rw [if_neg a, if_neg (by omega)]
        by_cases b : p < 6
        · rw [if_pos b, if_pos (by omega)]; decide
        · rw [if_neg b]; split <;> split <;> first | decide | omega
    · rw [if_neg h2]; exact Nat.zero_le _
theorem outN_cap {s k p : Nat} (hs : s < 2) (hp : p < 22) : outN s k p ≤ cap p := by
  unfold outN
  by_cases h1 : p = s
  · rw [if_pos h1]; unfold cap; rw [if_neg (by omega)]; omega
  · rw [if_neg h1]
    by_cases h2 : 6 + 4 * s ≤ p ∧ p < 10 + 4 * s
    · rw [if_pos h2]; unfold cap; split <;> split <;> first | decide | omega
    · rw [if_neg h2]; exact sideN_cap hp
/-- one card laid on a pile that isn't the hand -/
theorem DSO_lay {T : Ts} {s x k u : Nat} (h : DSO T s x k) (hs : s < 2) (hk : k < 17) (hu : u < 22) (hu4 : u ≠ 4 + s) (hc : outN s k u < cap u) (hn : ∀ p, p < 22 → p ≠ 4 + s → outN s (k + 1) p = if p = u then outN s k u + 1 else outN s k p) (hd : dealC x u (outN s k u) = packG x s k) :
    DSO (sSz (sCd T (upd (Tcd T) (fpv u + outN s k u) (nI (packG x s k)))) (upd (Tsz T) u (nI (outN s k u + 1)))) s x (k + 1) := by
  obtain ⟨h1, h2, h3, h4, h5⟩ := h
  refine ⟨?_, ?_, ?_, ?_, ?_⟩
  · intro p hp hp4
    rw [hn p hp hp4]
    show upd (Tsz T) u _ p = _
    unfold upd
    by_cases z : p = u
    · rw [if_pos z, if_pos z]
    · rw [if_neg z, if_neg z]; exact h1 p hp hp4
  · show upd (Tsz T) u _ (4 + s) = _
    unfold upd
    rw [if_neg (fun z => hu4 z.symm), h2]
    congr 1; omega
  · intro p i hp hp4 hi
    rw [hn p hp hp4] at hi
    show upd (Tcd T) _ _ (fpv p + i) = _
    unfold upd
    by_cases z : p = u
    · subst z
      rw [if_pos rfl] at hi
      by_cases z2 : i = outN s k p
      · rw [z2, if_pos rfl, hd]
      · rw [if_neg (by omega)]; exact h3 p i hp hp4 (by omega)
    · rw [if_neg z] at hi
      rw [if_neg]
      · exact h3 p i hp hp4 hi
      · intro e
        have := outN_cap (k := k) hs hp
        exact z (fpv_inj hp hu (by omega) hc e).1
  · intro j hj1 hj2
    show upd (Tcd T) _ _ (fpv (4 + s) + j) = _
    unfold upd
    rw [if_neg (fun e => hand_ne hs hu hu4 hc (by omega) e.symm)]
    exact h4 j (by omega) hj2
  · intro i hi; omega
theorem DSO_hand {T : Ts} {s x k : Nat} (h : DSO T s x k) (hs : s < 2) (hk : 17 ≤ k) (hk2 : k < 52) :
    DSO (sSz (sCd T (upd (Tcd T) (fpv (4 + s) + (k - 17)) (nI (packG x s k)))) (upd (Tsz T) (4 + s) (nI (k - 17 + 1)))) s x (k + 1) := by
  obtain ⟨h1, h2, h3, h4, h5⟩ := h
  have e1 : ∀ p, outN s (k + 1) p = outN s k p := by
    intro p
    unfold outN
    by_cases z : p = s
    · rw [if_pos z, if_pos z]; omega
    · rw [if_neg z, if_neg z]
      by_cases z2 : 6 + 4 * s ≤ p ∧ p < 10 + 4 * s
      · rw [if_pos z2, if_pos z2, if_pos (by omega), if_pos (by omega)]
      · rw [if_neg z2, if_neg z2]
  refine ⟨?_, ?_, ?_, ?_, ?_⟩
  · intro p hp hp4
    rw [e1]
    show upd (Tsz T) (4 + s) _ p = _
    unfold upd
    rw [if_neg hp4]; exact h1 p hp hp4
  · show upd (Tsz T) (4 + s) _ (4 + s) = _
    unfold upd
    rw [if_pos rfl]; congr 1; omega
  · intro p i hp hp4 hi
    rw [e1] at hi
    show upd (Tcd T) _ _ (fpv p + i) = _
    unfold upd
    have := outN_cap (k := k) hs hp
    rw [if_neg (hand_ne hs hp hp4 (by omega) (by omega))]
    exact h3 p i hp hp4 hi
  · intro j hj1 hj2
    show upd (Tcd T) _ _ (fpv (4 + s) + j) = _
    unfold upd
    rw [if_neg (by omega)]
    exact h4 j (by omega) hj2
  · intro i hi
    show upd (Tcd T) _ _ (fpv (4 + s) + i) = _
    unfold upd
    by_cases z : i = k - 17
    · rw [if_pos (by omega), show 17 + i = k by omega]
    · rw [if_neg (by omega)]; exact h5 i (by omega)
theorem sideN_s {s : Nat} (hs : s < 2) {p : Nat} (h : p = s ∨ (6 + 4 * s ≤ p ∧ p < 10 + 4 * s)) : sideN s p = 0 := by
  unfold sideN
  by_cases z : s = 0
  · rw [if_pos z]
  · rw [if_neg z, if_neg]
    rintro ⟨e, -⟩
    unfold sdG at e
    split at e
    · omega
    · split at e <;> omega
theorem DSO_0 {T : Ts} {s x : Nat} (hs : s < 2) (h1 : ∀ p, p < 22 → p ≠ 4 + s → Tsz T p = nI (sideN s p)) (h2 : Tsz T (4 + s) = nI 0) (h3 : ∀ p i, p < 22 → p ≠ 4 + s → i < sideN s p → Tcd T (fpv p + i) = nI (dealC x p i)) (h4 : ∀ j, j < 52 → Tcd T (fpv (4 + s) + j) = nI (packG x s j)) : DSO T s x 0 := by
  have e : ∀ p, outN s 0 p = sideN s p := by
    intro p
    unfold outN
    by_cases z : p = s
    · rw [if_pos z, sideN_s hs (Or.inl z)]; rfl
    · rw [if_neg z]
      by_cases z2 : 6 + 4 * s ≤ p ∧ p < 10 + 4 * s
      · rw [if_pos z2, if_neg (by omega), sideN_s hs (Or.inr z2)]
      · rw [if_neg z2]
  refine ⟨fun p hp hp4 => by rw [e]; exact h1 p hp hp4, h2, fun p i hp hp4 hi => h3 p i hp hp4 (by rw [← e]; exact hi), fun j _ hj => h4 j hj, fun i hi => by omega⟩
/-- the stock, then the houses, then the hand -/
theorem DSO_a {T : Ts} {s x k : Nat} (h : DSO T s x k) (hs : s < 2) (hk : k < 13) : DSO (sSz (sCd T (upd (Tcd T) (fpv s + k) (nI (packG x s k)))) (upd (Tsz T) s (nI (k + 1)))) s x (k + 1) := by
  have e : outN s k s = k := by unfold outN; rw [if_pos rfl]; omega
  have a := DSO_lay (u := s) h hs (by omega) (by omega) (by omega) (by rw [e]; unfold cap; rw [if_neg (by omega)]; exact hk) (fun p hp hp4 => by
    rw [e]
    by_cases z : p = s
    · rw [if_pos z, z]; unfold outN; rw [if_pos rfl]; omega
    · rw [if_neg z]; unfold outN; rw [if_neg z, if_neg z]
      by_cases z2 : 6 + 4 * s ≤ p ∧ p < 10 + 4 * s
      · rw [if_pos z2, if_pos z2, if_neg (by omega), if_neg (by omega)]
      · rw [if_neg z2, if_neg z2]) (by rw [e, dealC_e, show sdG s = s by unfold sdG; rw [if_pos hs], show ixG s k = k by unfold ixG; rw [if_pos hs]])
  rw [e] at a
  exact a
theorem DSO_b {T : Ts} {s x k : Nat} (h : DSO T s x k) (hs : s < 2) (hk : 13 ≤ k) (hk2 : k < 17) : DSO (sSz (sCd T (upd (Tcd T) (fpv (6 + s * 4 + k - 13) + 0) (nI (packG x s k)))) (upd (Tsz T) (6 + s * 4 + k - 13) (nI (0 + 1)))) s x (k + 1) := by
  have e : outN s k (6 + s * 4 + k - 13) = 0 := by unfold outN; rw [if_neg (by omega), if_pos (by omega), if_neg (by omega)]
  have a := DSO_lay (u := 6 + s * 4 + k - 13) h hs hk2 (by omega) (by omega) (by rw [e]; unfold cap; rw [if_neg (by omega)]; decide) (fun p hp hp4 => by
    rw [e]
    by_cases z : p = 6 + s * 4 + k - 13
    · rw [if_pos z]; unfold outN; rw [if_neg (by omega), if_pos (by omega), if_pos (by omega)]
    · rw [if_neg z]; unfold outN
      by_cases z3 : p = s
      · rw [if_pos z3, if_pos z3]; omega
      · rw [if_neg z3, if_neg z3]
        by_cases z2 : 6 + 4 * s ≤ p ∧ p < 10 + 4 * s
        · rw [if_pos z2, if_pos z2]
          by_cases z4 : p - (6 + 4 * s) + 13 < k
          · rw [if_pos z4, if_pos (by omega)]
          · rw [if_neg z4, if_neg (by omega)]
        · rw [if_neg z2, if_neg z2]) (by
      rw [e, dealC_e, show sdG (6 + s * 4 + k - 13) = s by unfold sdG; rw [if_neg (by omega), if_neg (by omega)]; omega, show ixG (6 + s * 4 + k - 13) 0 = k by unfold ixG; rw [if_neg (by omega), if_neg (by omega)]; omega])
  rw [e] at a
  exact a
theorem dealC_h (x : Nat) {s : Nat} (hs : s < 2) (i : Nat) : dealC x (4 + s) i = packG x s (17 + i) := by
  rw [dealC_e, show sdG (4 + s) = s by unfold sdG; rw [if_neg (by omega), if_pos (by omega)]; omega, show ixG (4 + s) i = 17 + i by unfold ixG; rw [if_neg (by omega), if_pos (by omega)]]
theorem sideN_1 {p : Nat} (hp : p < 22) (h : p ≠ 5) : sideN 1 p = outN 0 52 p ∨ (p = 4 ∧ sideN 1 p = 35) := by
  have key : ∀ p, p < 22 → p ≠ 5 → (sideN 1 p = outN 0 52 p ∨ (p = 4 ∧ sideN 1 p = 35)) := by decide
  exact key p hp h
theorem outN_1 {p : Nat} (hp : p < 22) (h : p ≠ 5) : outN 1 52 p = dealN p := by
  have key : ∀ p, p < 22 → p ≠ 5 → outN 1 52 p = dealN p := by decide
  exact key p hp h
/-- the first side dealt, the other's turn -/
theorem DSO_next {T : Ts} {x : Nat} (h : DSO T 0 x 52) : (∀ p, p < 22 → p ≠ 5 → Tsz T p = nI (sideN 1 p)) ∧ Tsz T 5 = nI 0 ∧ (∀ p i, p < 22 → p ≠ 5 → i < sideN 1 p → Tcd T (fpv p + i) = nI (dealC x p i)) := by
  obtain ⟨h1, h2, h3, h4, h5⟩ := h
  refine ⟨?_, ?_, ?_⟩
  · intro p hp hp5
    rcases sideN_1 hp hp5 with z | ⟨z, z2⟩
    · by_cases z4 : p = 4
      · subst z4; rw [show Tsz T 4 = nI (52 - 17) from h2, show sideN 1 4 = 35 by decide]
      · rw [z]; exact h1 p hp z4
    · subst z; rw [show Tsz T 4 = nI (52 - 17) from h2, z2]
  · rw [h1 5 (by decide) (by decide), show outN 0 52 5 = 0 by decide]
  · intro p i hp hp5 hi
    by_cases z4 : p = 4
    · subst z4
      have e : sideN 1 4 = 35 := by decide
      rw [e] at hi
      rw [show Tcd T (fpv 4 + i) = nI (packG x 0 (17 + i)) from h5 i (by omega), ← dealC_h x (by decide) i]
    · rcases sideN_1 hp hp5 with z | ⟨z, z2⟩
      · rw [z] at hi; exact h3 p i hp z4 hi
      · exact absurd z z4
theorem DSO_end {T : Ts} {x : Nat} (h : DSO T 1 x 52) (c : CL T) : TR T (dealG x) := by
  obtain ⟨h1, h2, h3, h4, h5⟩ := h
  obtain ⟨c1, c2, c3, c4, c5, c6⟩ := c
  refine ⟨?_, ?_, fun s hs => (c1 s hs).1, fun s hs => (c1 s hs).2, fun k hk => ⟨0, c2 k hk, by decide, rfl⟩, c3, c4, c5, c6⟩
  · intro p hp
    by_cases z : p = 5
    · subst z; rw [show Tsz T 5 = nI (52 - 17) from h2]; rfl
    · rw [h1 p hp z, outN_1 hp z]; rfl
  · intro p i hp hi
    by_cases z : p = 5
    · subst z
      have hi2 : i < 35 := hi
      rw [show Tcd T (fpv 5 + i) = nI (packG x 1 (17 + i)) from h5 i (by omega), ← dealC_h x (by decide) i]; rfl
    · have hi2 : i < dealN p := hi
      rw [h3 p i hp z (by rw [outN_1 hp z]; exact hi2)]; rfl
theorem lcg_l {x : Nat} (hx : x < 2147483648) : (lN x * 1103515245 + 12345) - (lN x * 1103515245 + 12345) / 2147483648 * 2147483648 = lN (lcg x) := by
  rw [show (1103515245 : Int64) = lN 1103515245 from rfl, show (12345 : Int64) = lN 12345 from rfl, show (2147483648 : Int64) = lN 2147483648 from rfl, lN_mul, lN_add, pk_lRem (by omega) (by decide) (by decide)]
  rfl
theorem lcg_o {x k : Nat} (hx : x < 2147483648) (hk : k < 1000) : (lN x / 65536 - lN x / 65536 / (nI (k + 1)).toInt64 * (nI (k + 1)).toInt64).toInt32 = nI (x / 65536 % (k + 1)) := by
  rw [show (65536 : Int64) = lN 65536 from rfl, nI_l (by omega), pk_lDiv (by omega) (by decide) (by decide), pk_lRem (by omega) (by omega) (by omega), lN_i]
theorem lN_ne {k : Nat} (hk : k < 1000) : ¬ (nI (k + 1)).toInt64 = 0 := by
  rw [nI_l (by omega), show (0 : Int64) = lN 0 from rfl, lN_eq (by omega) (by decide)]
  omega
