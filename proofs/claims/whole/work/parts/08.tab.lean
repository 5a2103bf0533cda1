/-! A table's six cells at the places t .. t+5 of a world. -/
abbrev Ts : Type := (Nat → Int32) × (Nat → Int32) × (Nat → Int32) × (Nat → Int32) × (Nat → Int32) × Int32 × Int32 × Int32 × Int32
abbrev Tcd (T : Ts) : Nat → Int32 := T.1
abbrev Tsz (T : Ts) : Nat → Int32 := T.2.1
abbrev Tpt (T : Ts) : Nat → Int32 := T.2.2.1
abbrev Tfz (T : Ts) : Nat → Int32 := T.2.2.2.1
abbrev Tth (T : Ts) : Nat → Int32 := T.2.2.2.2.1
abbrev Ttp (T : Ts) : Int32 := T.2.2.2.2.2.1
abbrev Tdr (T : Ts) : Int32 := T.2.2.2.2.2.2.1
abbrev Tmv (T : Ts) : Int32 := T.2.2.2.2.2.2.2.1
abbrev Tov (T : Ts) : Int32 := T.2.2.2.2.2.2.2.2
abbrev sCd (T : Ts) (x : Nat → Int32) : Ts := (x, T.2)
abbrev sSz (T : Ts) (x : Nat → Int32) : Ts := (T.1, x, T.2.2)
abbrev sPt (T : Ts) (x : Nat → Int32) : Ts := (T.1, T.2.1, x, T.2.2.2)
abbrev sFz (T : Ts) (x : Nat → Int32) : Ts := (T.1, T.2.1, T.2.2.1, x, T.2.2.2.2)
abbrev sTh (T : Ts) (x : Nat → Int32) : Ts := (T.1, T.2.1, T.2.2.1, T.2.2.2.1, x, T.2.2.2.2.2)
abbrev sTp (T : Ts) (x : Int32) : Ts := (T.1, T.2.1, T.2.2.1, T.2.2.2.1, T.2.2.2.2.1, x, T.2.2.2.2.2.2)
abbrev sDr (T : Ts) (x : Int32) : Ts := (T.1, T.2.1, T.2.2.1, T.2.2.2.1, T.2.2.2.2.1, T.2.2.2.2.2.1, x, T.2.2.2.2.2.2.2)
abbrev sMv (T : Ts) (x : Int32) : Ts := (T.1, T.2.1, T.2.2.1, T.2.2.2.1, T.2.2.2.2.1, T.2.2.2.2.2.1, T.2.2.2.2.2.2.1, x, T.2.2.2.2.2.2.2.2)
abbrev sOv (T : Ts) (x : Int32) : Ts := (T.1, T.2.1, T.2.2.1, T.2.2.2.1, T.2.2.2.2.1, T.2.2.2.2.2.1, T.2.2.2.2.2.2.1, T.2.2.2.2.2.2.2.1, x)
abbrev tobj (g : jG) (t : Nat) (tp dr mv ov : Int32) : va_E := .inr (1, [.ref (gr g (t + 1)), .ref (gr g (t + 2)), .ref (gr g (t + 3)), .ref (gr g (t + 4)), .ref (gr g (t + 5)), .int tp, .int dr, .int mv, .int ov])
def tcell (g : jG) (t : Nat) (T : Ts) (k : Nat) : va_E := match k with
  | 0 => tobj g t (Ttp T) (Tdr T) (Tmv T) (Tov T)
  | 1 => .inl (gI g, 650, .inl (Tcd T))
  | 2 => .inl (gI g, 22, .inl (Tsz T))
  | 3 => .inl (gI g, 2, .inl (Tpt T))
  | 4 => .inl (gI g, 2, .inl (Tfz T))
  | _ => .inl (gI g, 8, .inl (Tth T))
def tab (g : jG) (w : jW) (t : Nat) (T : Ts) : jW := fun p => if t ≤ p ∧ p < t + 6 then tcell g t T (p - t) else w p
theorem tab_k (g : jG) (w : jW) (t : Nat) (T : Ts) (k : Nat) (h : k < 6) : tab g w t T (t + k) = tcell g t T k := by
  unfold tab
  rw [if_pos ⟨by omega, by omega⟩, Nat.add_sub_cancel_left]
theorem tab_0 (g : jG) (w : jW) (t : Nat) (T : Ts) : tab g w t T t = tobj g t (Ttp T) (Tdr T) (Tmv T) (Tov T) := tab_k g w t T 0 (by decide)
theorem tab_1 (g : jG) (w : jW) (t : Nat) (T : Ts) : tab g w t T (t + 1) = .inl (gI g, 650, .inl (Tcd T)) := tab_k g w t T 1 (by decide)
theorem tab_2 (g : jG) (w : jW) (t : Nat) (T : Ts) : tab g w t T (t + 2) = .inl (gI g, 22, .inl (Tsz T)) := tab_k g w t T 2 (by decide)
theorem tab_3 (g : jG) (w : jW) (t : Nat) (T : Ts) : tab g w t T (t + 3) = .inl (gI g, 2, .inl (Tpt T)) := tab_k g w t T 3 (by decide)
theorem tab_4 (g : jG) (w : jW) (t : Nat) (T : Ts) : tab g w t T (t + 4) = .inl (gI g, 2, .inl (Tfz T)) := tab_k g w t T 4 (by decide)
theorem tab_5 (g : jG) (w : jW) (t : Nat) (T : Ts) : tab g w t T (t + 5) = .inl (gI g, 8, .inl (Tth T)) := tab_k g w t T 5 (by decide)
theorem tab_ne (g : jG) (w : jW) (t : Nat) (T : Ts) {p : Nat} (h : p < t ∨ t + 6 ≤ p) : tab g w t T p = w p := by
  unfold tab
  rw [if_neg (by omega)]
theorem tab_uk {g : jG} {w : jW} {t : Nat} {T T' : Ts} (k : Nat) (h : k < 6) {c : va_E} (hc : tcell g t T' k = c) (ho : ∀ j, j < 6 → j ≠ k → tcell g t T' j = tcell g t T j) : va_up (tab g w t T) (t + k) c = tab g w t T' := by
  funext p
  by_cases hp : p = t + k
  · subst hp
    rw [up_at, tab_k g w t T' k h, hc]
  · rw [up_ne _ _ hp]
    by_cases hr : t ≤ p ∧ p < t + 6
    · obtain ⟨j, rfl⟩ : ∃ j, p = t + j := ⟨p - t, by omega⟩
      rw [tab_k g w t T j (by omega), tab_k g w t T' j (by omega), ho j (by omega) (by omega)]
    · rw [tab_ne g w t T (by omega), tab_ne g w t T' (by omega)]
theorem five {P : Nat → Prop} (h0 : P 0) (h1 : P 1) (h2 : P 2) (h3 : P 3) (h4 : P 4) (h5 : P 5) : ∀ j, j < 6 → P j := by
  intro j hj
  match j, hj with
  | 0, _ => exact h0
  | 1, _ => exact h1
  | 2, _ => exact h2
  | 3, _ => exact h3
  | 4, _ => exact h4
  | 5, _ => exact h5
theorem tab_u0 {g : jG} {w : jW} {t : Nat} {T : Ts} {tp dr mv ov : Int32} : va_up (tab g w t T) t (tobj g t tp dr mv ov) = tab g w t (T.1, T.2.1, T.2.2.1, T.2.2.2.1, T.2.2.2.2.1, tp, dr, mv, ov) :=
  tab_uk 0 (by decide) rfl (five (fun h => absurd rfl h) (fun _ => rfl) (fun _ => rfl) (fun _ => rfl) (fun _ => rfl) (fun _ => rfl))
theorem tab_u1 {g : jG} {w : jW} {t : Nat} {T : Ts} {f : Nat → Int32} : va_up (tab g w t T) (t + 1) (.inl (gI g, 650, .inl f)) = tab g w t (sCd T f) :=
  tab_uk 1 (by decide) rfl (five (fun _ => rfl) (fun h => absurd rfl h) (fun _ => rfl) (fun _ => rfl) (fun _ => rfl) (fun _ => rfl))
theorem tab_u2 {g : jG} {w : jW} {t : Nat} {T : Ts} {f : Nat → Int32} : va_up (tab g w t T) (t + 2) (.inl (gI g, 22, .inl f)) = tab g w t (sSz T f) :=
  tab_uk 2 (by decide) rfl (five (fun _ => rfl) (fun _ => rfl) (fun h => absurd rfl h) (fun _ => rfl) (fun _ => rfl) (fun _ => rfl))
theorem tab_u3 {g : jG} {w : jW} {t : Nat} {T : Ts} {f : Nat → Int32} : va_up (tab g w t T) (t + 3) (.inl (gI g, 2, .inl f)) = tab g w t (sPt T f) :=
  tab_uk 3 (by decide) rfl (five (fun _ => rfl) (fun _ => rfl) (fun _ => rfl) (fun h => absurd rfl h) (fun _ => rfl) (fun _ => rfl))
theorem tab_u4 {g : jG} {w : jW} {t : Nat} {T : Ts} {f : Nat → Int32} : va_up (tab g w t T) (t + 4) (.inl (gI g, 2, .inl f)) = tab g w t (sFz T f) :=
  tab_uk 4 (by decide) rfl (five (fun _ => rfl) (fun _ => rfl) (fun _ => rfl) (fun _ => rfl) (fun h => absurd rfl h) (fun _ => rfl))
theorem tab_u5 {g : jG} {w : jW} {t : Nat} {T : Ts} {f : Nat → Int32} : va_up (tab g w t T) (t + 5) (.inl (gI g, 8, .inl f)) = tab g w t (sTh T f) :=
  tab_uk 5 (by decide) rfl (five (fun _ => rfl) (fun _ => rfl) (fun _ => rfl) (fun _ => rfl) (fun _ => rfl) (fun h => absurd rfl h))
theorem tab_tab (g : jG) (w : jW) (t : Nat) (T T' : Ts) : tab g (tab g w t T) t T' = tab g w t T' := by
  funext p
  by_cases hr : t ≤ p ∧ p < t + 6
  · unfold tab; rw [if_pos hr, if_pos hr]
  · rw [tab_ne _ _ _ _ (by omega), tab_ne _ _ _ _ (by omega), tab_ne _ _ _ _ (by omega)]
theorem tab_comm (g : jG) (w : jW) {t u : Nat} (T U : Ts) (h : t + 6 ≤ u ∨ u + 6 ≤ t) : tab g (tab g w t T) u U = tab g (tab g w u U) t T := by
  funext p
  unfold tab
  by_cases h1 : t ≤ p ∧ p < t + 6
  · rw [if_neg (by omega), if_pos h1, if_pos h1]
  · rw [if_neg h1, if_neg h1]
/-- a world that holds the table already -/
theorem tab_self {g : jG} {w : jW} {t : Nat} {T : Ts} (h : ∀ k, k < 6 → w (t + k) = tcell g t T k) : tab g w t T = w := by
  funext p
  by_cases hr : t ≤ p ∧ p < t + 6
  · obtain ⟨j, rfl⟩ : ∃ j, p = t + j := ⟨p - t, by omega⟩
    rw [tab_k g w t T j (by omega), h j (by omega)]
  · rw [tab_ne g w t T (by omega)]
theorem fpv_b {p : Nat} (h : p < 22) : fpv p < 650 := by
  have key : ∀ p, p < 22 → fpv p < 650 := by decide
  exact key p h
/-- how many cards a pile's stretch of the row bears -/
def cap (p : Nat) : Nat := if 2 ≤ p ∧ p < 6 then 104 else 13
theorem fpv_cap {p : Nat} (h : p < 22) : fpv p + cap p ≤ 650 := by
  have key : ∀ p, p < 22 → fpv p + cap p ≤ 650 := by decide
  exact key p h
theorem fpv_inj {p q i j : Nat} (hp : p < 22) (hq : q < 22) (hi : i < cap p) (hj : j < cap q) (h : fpv p + i = fpv q + j) : p = q ∧ i = j := by
  have key : ∀ p, p < 22 → ∀ q, q < 22 → p < q → fpv p + cap p ≤ fpv q := by decide
  rcases Nat.lt_trichotomy p q with h1 | h1 | h1
  · have := key p hp q hq h1; omega
  · subst h1; exact ⟨rfl, by omega⟩
  · have := key q hq p hp h1; omega
