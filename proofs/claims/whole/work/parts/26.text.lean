/-! THE PAD'S TEXT: L characters ch; behind the end there is 0. -/
def tx (L : Nat) (ch : Nat → Nat) (i : Nat) : Nat := if i < L then ch i else 0
def tdig (L : Nat) (ch : Nat → Nat) (i : Nat) : Bool := decide (48 ≤ tx L ch i ∧ tx L ch i ≤ 57)
def ttwo (L : Nat) (ch : Nat → Nat) (i : Nat) : Nat := 10 * (tx L ch i - 48) + (tx L ch (i + 1) - 48)
def tbig (L : Nat) (ch : Nat → Nat) (i : Nat) : Bool := tdig L ch (i + 1) && (decide (10 ≤ ttwo L ch i) && decide (ttwo L ch i < 22))
def tend (L : Nat) (ch : Nat → Nat) (i : Nat) : Nat := bif tdig L ch i then (bif tbig L ch i then i + 2 else i + 1) else i
def tval (L : Nat) (ch : Nat → Nat) (i : Nat) : Nat := bif tbig L ch i then ttwo L ch i else tx L ch i - 48
/-- a step: whether it can stand, where it ends or what can't stand -/
def rsG (L : Nat) (ch : Nat → Nat) (i : Nat) : Bool × Nat :=
  if tx L ch i = 100 then (true, i + 1)
  else if tx L ch i = 102 then (if 48 ≤ tx L ch (i + 1) ∧ tx L ch (i + 1) ≤ 55 then (true, i + 2) else (false, i + 1))
  else if tend L ch i = i ∨ tx L ch (tend L ch i) ≠ 62 then (false, tend L ch i)
  else if tend L ch (tend L ch i + 1) = tend L ch i + 1 then (false, tend L ch i + 1) else (true, tend L ch (tend L ch i + 1))
/-- the fault from a place on, looked for so many steps long -/
def ffG (L : Nat) (ch : Nat → Nat) : Nat → Nat → Option Nat
  | 0, _ => some L
  | k + 1, i => if (rsG L ch i).1 = false then some (rsG L ch i).2 else if (rsG L ch i).2 = L then none else if tx L ch (rsG L ch i).2 ≠ 44 then some (rsG L ch i).2 else ffG L ch k ((rsG L ch i).2 + 1)
def faultG (L : Nat) (ch : Nat → Nat) : Option Nat := ffG L ch (L + 1) 0
def stepG (L : Nat) (ch : Nat → Nat) (γ : Gm) (i : Nat) : Option Gm :=
  if tx L ch i = 100 then (bif qo γ then none else some (drawG γ))
  else if tx L ch i = 102 then (bif okF γ (tx L ch (i + 1) - 48) then some (freezeG γ (tx L ch (i + 1) - 48)) else none)
  else (bif okG γ (tval L ch i) (tval L ch (tend L ch i + 1)) then some (moveG γ (tval L ch i) (tval L ch (tend L ch i + 1))) else none)
def allG (L : Nat) (ch : Nat → Nat) : Nat → Gm → Nat → Gm × Nat
  | 0, γ, _ => (γ, 0)
  | k + 1, γ, i => if i < L then (match stepG L ch γ i with
    | none => (γ, 0)
    | some γ' => ((allG L ch k γ' ((rsG L ch i).2 + 1)).1, (allG L ch k γ' ((rsG L ch i).2 + 1)).2 + 1)) else (γ, 0)
/-- a text that is a play from i on -/
def vtG (L : Nat) (ch : Nat → Nat) : Nat → Nat → Prop
  | 0, _ => False
  | k + 1, i => (rsG L ch i).1 = true ∧ ((rsG L ch i).2 = L ∨ ((rsG L ch i).2 ≠ L ∧ tx L ch (rsG L ch i).2 = 44 ∧ vtG L ch k ((rsG L ch i).2 + 1)))
theorem ff_vt {L : Nat} {ch : Nat → Nat} : ∀ {k i : Nat}, ffG L ch k i = none → vtG L ch k i
  | 0, _, h => by cases h
  | k + 1, i, h => by
    unfold ffG at h
    by_cases a : (rsG L ch i).1 = false
    · rw [if_pos a] at h; cases h
    · rw [if_neg a] at h
      have a2 : (rsG L ch i).1 = true := by cases z : (rsG L ch i).1 <;> first | rfl | exact absurd z a
      by_cases b : (rsG L ch i).2 = L
      · exact ⟨a2, Or.inl b⟩
      · rw [if_neg b] at h
        by_cases c : tx L ch (rsG L ch i).2 ≠ 44
        · rw [if_pos c] at h; cases h
        · rw [if_neg c] at h
          exact ⟨a2, Or.inr ⟨b, Classical.not_not.mp c, ff_vt h⟩⟩
theorem tx_lt {L : Nat} {ch : Nat → Nat} {i : Nat} (h : tx L ch i ≠ 0) : i < L := by
  unfold tx at h
  by_cases z : i < L
  · exact z
  · rw [if_neg z] at h; exact absurd rfl h
theorem tend_dig {L : Nat} {ch : Nat → Nat} {i : Nat} (h : tend L ch i ≠ i) : tdig L ch i = true := by
  unfold tend at h
  cases z : tdig L ch i
  · rw [z] at h; exact absurd rfl h
  · rfl
theorem tdig_e {L : Nat} {ch : Nat → Nat} {i : Nat} : tdig L ch i = true ↔ 48 ≤ tx L ch i ∧ tx L ch i ≤ 57 := by unfold tdig; rw [decide_eq_true_eq]
theorem tend_ge (L : Nat) (ch : Nat → Nat) (i : Nat) : i ≤ tend L ch i ∧ tend L ch i ≤ i + 2 := by
  unfold tend
  cases tdig L ch i <;> cases tbig L ch i <;> simp
theorem tend_L {L : Nat} {ch : Nat → Nat} {i : Nat} (h : tend L ch i ≠ i) : tend L ch i ≤ L := by
  have hd := tend_dig h
  have a := tdig_e.mp hd
  have b := tx_lt (L := L) (ch := ch) (i := i) (by omega)
  unfold tend
  rw [hd]
  cases hb : tbig L ch i
  · show i + 1 ≤ L; omega
  · unfold tbig at hb
    simp only [Bool.and_eq_true] at hb
    have c := tdig_e.mp hb.1
    have e := tx_lt (L := L) (ch := ch) (i := i + 1) (by omega)
    show i + 2 ≤ L; omega
theorem rs_gt {L : Nat} {ch : Nat → Nat} {i : Nat} (h : (rsG L ch i).1 = true) : i < (rsG L ch i).2 ∧ (rsG L ch i).2 ≤ L := by
  unfold rsG at h ⊢
  by_cases a : tx L ch i = 100
  · rw [if_pos a]
    have := tx_lt (L := L) (ch := ch) (i := i) (by omega)
    exact ⟨Nat.lt_succ_self _, this⟩
  · rw [if_neg a] at h ⊢
    by_cases b : tx L ch i = 102
    · rw [if_pos b] at h ⊢
      by_cases c : 48 ≤ tx L ch (i + 1) ∧ tx L ch (i + 1) ≤ 55
      · rw [if_pos c]
        have := tx_lt (L := L) (ch := ch) (i := i + 1) (by omega)
        exact ⟨by show i < i + 2; omega, by show i + 2 ≤ L; omega⟩
      · rw [if_neg c] at h; cases h
    · rw [if_neg b] at h ⊢
      by_cases c : tend L ch i = i ∨ tx L ch (tend L ch i) ≠ 62
      · rw [if_pos c] at h; cases h
      · rw [if_neg c] at h ⊢
        by_cases d : tend L ch (tend L ch i + 1) = tend L ch i + 1
        · rw [if_pos d] at h; cases h
        · rw [if_neg d]
          have e1 := tend_ge L ch i
          have e2 := tend_ge L ch (tend L ch i + 1)
          exact ⟨by show i < tend L ch (tend L ch i + 1); omega, tend_L d⟩
theorem vt_lt {L : Nat} {ch : Nat → Nat} {k i : Nat} (h : vtG L ch k i) : i < L := by
  cases k with
  | zero => exact h.elim
  | succ k => have := rs_gt h.1; omega
/-- what a class's readStep answers -/
def rsI (r : Bool × Nat) : Int32 := bif r.1 then nI r.2 else -1 - nI r.2
theorem neg_2 (i : Nat) : (-2 : Int32) - nI i = -1 - nI (i + 1) := by
  rw [← nI_1, i32_eq]
  rw [i32_sub, i32_sub, i32_add]
  have a := i32_rng (nI i)
  have e1 : (-2 : Int32).toInt = -2 := by decide
  have e2 : (-1 : Int32).toInt = -1 := by decide
  have e3 : (1 : Int32).toInt = 1 := by decide
  rw [e1, e2, e3]
  omega
theorem neg_1 {i : Nat} (hi : i < 1000000) : ¬ 0 ≤ (-1 : Int32) - nI i := by
  rw [i32_le, i32_sub, nI_toInt (by omega)]
  have e2 : (-1 : Int32).toInt = -1 := by decide
  have e3 : (0 : Int32).toInt = 0 := by decide
  rw [e2, e3]
  omega
theorem neg_n (i : Nat) : (-1 : Int32) - (-1 - nI i) = nI i := by
  rw [i32_eq, i32_sub, i32_sub]
  have a := i32_rng (nI i)
  have e2 : (-1 : Int32).toInt = -1 := by decide
  rw [e2]
  omega
/-- the class's pad -/
def PD (X : Xs) (L : Nat) (ch : Nat → Nat) : Prop := Xln X = nI L ∧ L ≤ 60 ∧ (∀ i, i < L → Xsg X i = nI (ch i)) ∧ ∀ i, i < L → 33 ≤ ch i ∧ ch i ≤ 126
theorem tx_b {X : Xs} {L : Nat} {ch : Nat → Nat} (P : PD X L ch) (i : Nat) : tx L ch i ≤ 126 := by
  unfold tx
  by_cases h : i < L
  · rw [if_pos h]; exact (P.2.2.2 i h).2
  · rw [if_neg h]; decide
theorem XR_PD {X : Xs} {σ : Sg} (S : SI σ) (R : XR X σ) : PD X (zl σ) (zc σ) := ⟨R.2.2.2.2.1, S.2.2.2.2.1, R.2.2.2.2.2, S.2.2.2.2.2⟩
