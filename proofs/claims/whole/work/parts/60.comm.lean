theorem mw_lt (g : jG) (w : jW) (M : Ms) {p : Nat} (h : p < 67) : mw g w M p = w p := mw_ne g w M (Or.inl h)
/-- the two sides' places are apart -/
theorem xm_comm (g : jG) (w : jW) (X : Xs) (M : Ms) : xw g (mw g w M) X = mw g (xw g w X) M := by
  funext p
  by_cases h1 : p < 67
  · rw [mw_lt g _ M h1]
    unfold xw
    by_cases h7 : p < 7
    · rw [if_pos h7, if_pos h7]
    · rw [if_neg h7, if_neg h7, if_pos h1, if_pos h1]
  · have e : ∀ w' : jW, xw g w' X p = w' p := fun w' => by
      unfold xw
      rw [if_neg (by omega), if_neg h1]
    rw [e]
    unfold mw
    by_cases h2 : 67 ≤ p ∧ p < 77
    · rw [if_pos h2, if_pos h2]
    · rw [if_neg h2, if_neg h2, e]
