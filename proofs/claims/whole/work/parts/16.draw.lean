theorem GI_turn {γ : Gm} (G : GI γ) : GI (turnG γ) := by
  have h := PI_turn G.1 G.2.1
  have e := turn_2 γ
  refine ⟨h, ?_⟩
  show qt (turnG γ) < 2 ∧ _
  have e1 : (turnG γ) = ((turnG γ).1, (turnG γ).2.1, γ.2.2) := by rw [← e]
  rw [e1]
  exact G.2
theorem upd_same {f : Nat → Int32} {i : Nat} {x : Int32} (h : f i = x) : upd f i x = f := by
  funext j
  unfold upd
  by_cases z : j = i
  · rw [if_pos z, z, h]
  · rw [if_neg z]
theorem topO_k {γ : Gm} {p : Nat} (h : 0 < qn γ p) : topO γ p = some (topK γ p) := by unfold topO topK; rw [if_neg (by omega)]
theorem topO_0 {γ : Gm} {p : Nat} (h : qn γ p = 0) : topO γ p = none := by unfold topO; rw [if_pos h]
theorem topO_n {γ : Gm} {p : Nat} : topO γ p = none ↔ qn γ p = 0 := by
  unfold topO
  by_cases h : qn γ p = 0
  · rw [if_pos h]; exact ⟨fun _ => h, fun _ => rfl⟩
  · rw [if_neg h]; exact ⟨(fun z => by cases z), (fun z => absurd z h)⟩
theorem c_takeG (g : jG) (w : jW) (t : Nat) (ht : t + 6 ≤ NW) (T : Ts) (γ : Gm) (R : TR T γ) (G : GI γ) {a : Int32} {p : Nat} (ha : a = nI p) (hp : p < 22) : ConI g 2 yX1_takeFrom cX1_takeFrom 3 (some .int) [.ref (gr g t), .int a] (tab g w t T) (fun x w' => x = ov (topO γ p) ∧ w' = tab g w t (sSz T (upd (Tsz T) p (nI (qn γ p - 1))))) := by
  by_cases h : qn γ p = 0
  · have h1 := R_sz R hp
    have c := c_take0 g w t ht T ha hp (by rw [h1, h])
    rw [topO_0 h, upd_same (x := nI (qn γ p - 1)) (by rw [h1, h])]
    exact c
  · have c := c_take g w t ht T ha hp (qn γ p) (R_sz R hp) (G_f G hp) (by omega) (k := topK γ p) (G_k G hp (by omega)) (R_cd R hp (by omega))
    rw [topO_k (by omega)]
    exact c
/-- TR of the moved cards, with all else of the table given -/
theorem TR_put {T : Ts} {γ : Gm} (R : TR T γ) {n : Nat → Nat} {c : Nat → Nat → Nat} {pt : Nat → Int32} {fz zd : Nat → Nat} {tn dr : Nat} {mv : Int32} {ob : Bool} {tpt tfz tth : Nat → Int32} {ttp tdr tmv tov : Int32}
    (hn : n = qn γ) (hc : c = qc γ) (h1 : ∀ s, s < 2 → tpt s = pt s) (h2 : ∀ s, s < 2 → tfz s = nI (fz s)) (h3 : ∀ k, k < 8 → ∃ th, tth k = nI th ∧ th ≤ 203 ∧ zd k = th - dr) (h4 : ttp = nI tn) (h5 : tdr = nI dr) (h6 : tmv = mv) (h7 : tov = b2i ob) :
    TR (T.1, T.2.1, tpt, tfz, tth, ttp, tdr, tmv, tov) (n, c, pt, fz, zd, tn, dr, mv, ob) := by
  subst hn; subst hc
  exact ⟨R.1, R.2.1, h1, h2, h3, h4, h5, h6, h7⟩
