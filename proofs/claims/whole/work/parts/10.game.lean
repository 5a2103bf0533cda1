/-! THE GAME ITSELF: piles by number and place, points, freezes left, draws for which a house is frozen still, whose turn, draws, moves, over. -/
abbrev Gm : Type := (Nat → Nat) × (Nat → Nat → Nat) × (Nat → Int32) × (Nat → Nat) × (Nat → Nat) × Nat × Nat × Int32 × Bool
abbrev qn (γ : Gm) : Nat → Nat := γ.1
abbrev qc (γ : Gm) : Nat → Nat → Nat := γ.2.1
abbrev qp (γ : Gm) : Nat → Int32 := γ.2.2.1
abbrev qf (γ : Gm) : Nat → Nat := γ.2.2.2.1
abbrev qz (γ : Gm) : Nat → Nat := γ.2.2.2.2.1
abbrev qt (γ : Gm) : Nat := γ.2.2.2.2.2.1
abbrev qd (γ : Gm) : Nat := γ.2.2.2.2.2.2.1
abbrev qm (γ : Gm) : Int32 := γ.2.2.2.2.2.2.2.1
abbrev qo (γ : Gm) : Bool := γ.2.2.2.2.2.2.2.2
def isH (p : Nat) : Bool := decide (6 ≤ p ∧ p < 14)
def topO (γ : Gm) (p : Nat) : Option Nat := if qn γ p = 0 then none else some (qc γ p (qn γ p - 1))
def topK (γ : Gm) (p : Nat) : Nat := qc γ p (qn γ p - 1)
def mayGiveG (γ : Gm) (f : Nat) : Bool := !qo γ && (decide (0 < qn γ f) && (f == qt γ || (f == 2 + qt γ || (isH f && qz γ (f - 6) == 0))))
def mayTakeG (γ : Gm) (t k : Nat) : Bool := bif isH t then (qz γ (t - 6) == 0 && fH k (topO γ t)) else (bif decide (14 ≤ t) then fA k (topO γ t) else (t == 3 - qt γ && fW k (topO γ t)))
def okG (γ : Gm) (f t : Nat) : Bool := mayGiveG γ f && mayTakeG γ t (topK γ f)
def ptsG (γ : Gm) (f t : Nat) : Nat :=
  if 14 ≤ t then (if f = qt γ then 3 else if isH f = true ∧ (f - 6) / 4 ≠ qt γ then 2 else 1)
  else (if f = qt γ then 2 else if t = 3 - qt γ then 1 else 0)
def leftG (n : Nat → Nat) (s : Nat) : Nat := n s + n (2 + s) + n (4 + s)
def mvN (γ : Gm) (f t : Nat) : Nat → Nat := fun p => if p = t then qn γ t + 1 else if p = f then qn γ f - 1 else qn γ p
def mvC (γ : Gm) (f t : Nat) : Nat → Nat → Nat := fun p i => if p = t ∧ i = qn γ t then topK γ f else qc γ p i
def endG (γ : Gm) (f t : Nat) : Bool := leftG (mvN γ f t) (qt γ) == 0
def gainG (γ : Gm) (f t : Nat) : Int32 := nI (ptsG γ f t) + (bif endG γ f t then 10 else 0)
def moveG (γ : Gm) (f t : Nat) : Gm := (mvN γ f t, mvC γ f t, (fun s => if s = qt γ then qp γ s + gainG γ f t else qp γ s), qf γ, qz γ, qt γ, qd γ, qm γ + 1, (qo γ || endG γ f t))
/-- the waste of the side turned over, if its hand is empty -/
def turnG (γ : Gm) : Gm := if qn γ (4 + qt γ) = 0 then
    ((fun p => if p = 4 + qt γ then qn γ (2 + qt γ) else if p = 2 + qt γ then 0 else qn γ p), (fun p i => if p = 4 + qt γ then qc γ (2 + qt γ) (qn γ (2 + qt γ) - 1 - i) else qc γ p i), γ.2.2)
  else γ
/-- the top card of the hand comes onto the waste -/
def takeG (γ : Gm) : Gm := if qn γ (4 + qt γ) = 0 then γ else (mvN γ (4 + qt γ) (2 + qt γ), mvC γ (4 + qt γ) (2 + qt γ), γ.2.2)
def drawG (γ : Gm) : Gm :=
  ((takeG (turnG γ)).1, (takeG (turnG γ)).2.1, qp γ, qf γ, (fun h => qz γ h - 1), 1 - qt γ, qd γ + 1, qm γ, decide (200 ≤ qd γ + 1))
def drawO (γ : Gm) : Option Nat := topO (turnG γ) (4 + qt γ)
def okF (γ : Gm) (h : Nat) : Bool := !qo γ && (qz γ h == 0 && decide (0 < qf γ (qt γ)))
def freezeG (γ : Gm) (h : Nat) : Gm := (qn γ, qc γ, qp γ, (fun s => if s = qt γ then qf γ s - 1 else qf γ s), (fun k => if k = h then 3 else qz γ k), qt γ, qd γ, qm γ, qo γ)
-- the moves that there are: numbers 22 * from + to, in order
def okM (γ : Gm) (m : Nat) : Bool := okG γ (m / 22) (m % 22)
def ptM (γ : Gm) (m : Nat) : Nat := ptsG γ (m / 22) (m % 22)
def LM (γ : Gm) (k : Nat) : List Nat := (List.range k).filter (okM γ)
/-- how many, the best one with its number, one more than its points -/
def bstep (γ : Gm) (a : Nat × Option (Nat × Nat) × Nat) (m : Nat) : Nat × Option (Nat × Nat) × Nat := if a.2.2 ≤ ptM γ m then (a.1 + 1, some (a.1, m), ptM γ m + 1) else (a.1 + 1, a.2)
def BL (γ : Gm) (l : List Nat) : Nat × Option (Nat × Nat) × Nat := l.foldl (bstep γ) (0, none, 0)
def bestG (γ : Gm) : Option (Nat × Nat) := (BL γ (LM γ 308)).2.1
def ruleG (γ : Gm) : Gm := match bestG γ with
  | none => drawG γ
  | some b => if 1 ≤ ptM γ b.2 then moveG γ (b.2 / 22) (b.2 % 22) else drawG γ
def playN : Nat → Gm → Nat
  | 0, _ => 0
  | k + 1, γ => bif qo γ then 0 else playN k (ruleG γ) + 1
def playG : Nat → Gm → Gm
  | 0, γ => γ
  | k + 1, γ => bif qo γ then γ else playG k (ruleG γ)
-- a deal
def lcg (x : Nat) : Nat := (x * 1103515245 + 12345) % 2147483648
def swapF (f : Nat → Nat) (i j : Nat) : Nat → Nat := fun k => if k = j then f i else if k = i then f j else f k
def shufG : Nat → (Nat → Nat) × Nat → (Nat → Nat) × Nat
  | 0, a => a
  | k + 1, a => shufG k (swapF a.1 (k + 1) (lcg a.2 / 65536 % (k + 2)), lcg a.2)
def pack0 (x : Nat) : (Nat → Nat) × Nat := shufG 51 ((fun k => k), x)
def pack1 (x : Nat) : (Nat → Nat) × Nat := shufG 51 ((fun k => 52 + k), (pack0 x).2)
def packG (x s : Nat) : Nat → Nat := if s = 0 then (pack0 x).1 else (pack1 x).1
def dealN (p : Nat) : Nat := if p < 2 then 13 else if p < 4 then 0 else if p < 6 then 35 else if p < 14 then 1 else 0
def dealC (x p i : Nat) : Nat := if p < 2 then packG x p i else if p < 6 then packG x (p - 4) (17 + i) else packG x ((p - 6) / 4) (13 + (p - 6) % 4)
def dealG (x : Nat) : Gm := (dealN, dealC x, (fun _ => 0), (fun _ => 2), (fun _ => 0), 0, 0, 0, false)
-- what holds in every game
def sumN (f : Nat → Nat) : Nat → Nat
  | 0 => 0
  | k + 1 => sumN f k + f k
def PI (n : Nat → Nat) (c : Nat → Nat → Nat) : Prop :=
  (∀ p i, p < 22 → i < n p → c p i < 104) ∧ (∀ p q i j, p < 22 → q < 22 → i < n p → j < n q → c p i = c q j → p = q ∧ i = j) ∧ (∀ k, k < 104 → ∃ p i, p < 22 ∧ i < n p ∧ c p i = k) ∧ sumN n 22 = 104 ∧
  (∀ p i, 6 ≤ p → p < 14 → i + 1 < n p → rank (c p (i + 1)) + 1 = rank (c p i)) ∧ (∀ p i, 14 ≤ p → p < 22 → i < n p → rank (c p i) = i) ∧ (∀ p, p < 2 → n p ≤ 13)
def GI (γ : Gm) : Prop := PI (qn γ) (qc γ) ∧ qt γ < 2 ∧ (∀ s, s < 2 → qf γ s ≤ 2) ∧ (∀ h, h < 8 → qz γ h ≤ 3) ∧ qd γ ≤ 200 ∧ (qd γ = 200 → qo γ = true)
-- what a table and the reference's row say of it
def TR (T : Ts) (γ : Gm) : Prop :=
  (∀ p, p < 22 → Tsz T p = nI (qn γ p)) ∧ (∀ p i, p < 22 → i < qn γ p → Tcd T (fpv p + i) = nI (qc γ p i)) ∧ (∀ s, s < 2 → Tpt T s = qp γ s) ∧ (∀ s, s < 2 → Tfz T s = nI (qf γ s)) ∧
  (∀ h, h < 8 → ∃ th, Tth T h = nI th ∧ th ≤ 203 ∧ qz γ h = th - qd γ) ∧ Ttp T = nI (qt γ) ∧ Tdr T = nI (qd γ) ∧ Tmv T = qm γ ∧ Tov T = b2i (qo γ)
def MR (st : Nat → Int32) (γ : Gm) : Prop :=
  (∀ p i, p < 22 → i < qn γ p → st (qc γ p i) = nI p ∧ st (104 + qc γ p i) = nI i) ∧ (∀ s, s < 2 → st (208 + s) = qp γ s ∧ st (210 + s) = nI (qf γ s)) ∧ (∀ h, h < 8 → st (212 + h) = nI (qz γ h)) ∧
  st 220 = nI (qt γ) ∧ st 221 = b2i (qo γ) ∧ st 222 = nI (qd γ) ∧ st 223 = qm γ
theorem sumN_le {f : Nat → Nat} : ∀ {k p : Nat}, p < k → f p ≤ sumN f k
  | k + 1, p, h => by
    rcases Nat.lt_or_ge p k with h1 | h1
    · have := sumN_le (f := f) h1
      simp only [sumN]; omega
    · have : p = k := by omega
      subst this; simp only [sumN]; omega
theorem PI_cap {n : Nat → Nat} {c : Nat → Nat → Nat} (h : PI n c) {p : Nat} (hp : p < 22) : n p ≤ cap p := by
  obtain ⟨h1, h2, h3, h4, h5, h6, h7⟩ := h
  unfold cap
  by_cases hw : 2 ≤ p ∧ p < 6
  · rw [if_pos hw]
    have := sumN_le (f := n) (k := 22) hp
    omega
  · rw [if_neg hw]
    by_cases hs : p < 2
    · exact h7 p hs
    · by_cases hh : p < 14
      · apply Nat.le_of_not_lt
        intro hlt
        have key : ∀ i, i < n p → rank (c p i) + i = rank (c p 0) := by
          intro i
          induction i with
          | zero => intro _; rfl
          | succ i ih =>
            intro hi
            have a := h5 p i (by omega) hh hi
            have b := ih (by omega)
            omega
        have a := key 13 hlt
        have b := rank_lt (c p 0)
        omega
      · apply Nat.le_of_not_lt
        intro hlt
        have a := h6 p 13 (by omega) hp hlt
        have b := rank_lt (c p 13)
        omega
