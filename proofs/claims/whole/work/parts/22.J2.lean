theorem mSys_s : Cond.static arraycopyName ∈ jtb := jtb_m 220 (by decide +kernel) (by decide +kernel)
theorem mSys_n : Cond.native arraycopyName ∈ jtb := jtb_m 221 (by decide +kernel) (by decide +kernel)
theorem j_copyi {g : jG} {d : Nat} {K : jK} {own : String} {cc : ByteArray} {nL : Nat} {r : Option FieldType} {Φ : Option Value → jW → Prop} {pc q : Nat} {loc : List (Nat × Value)} {rest : List Value} {w : jW} (h : jH g K own cc nL r) {index z0 z1 n0 n1 : Nat} {f f1 : Nat → Int32} {sp dp n : Int32} (hm : Cond.methodLink own index arraycopyName ∈ jtb) (hz0 : z0 < NW) (hz1 : z1 < NW) (hw0 : w z0 = .inl (gI g, n0, .inl f)) (hw1 : w z1 = .inl (gI g, n1, .inl f1))
    (h1 : ¬ sp < 0) (h2 : ¬ dp < 0) (h3 : ¬ n < 0) (h4 : sp.toNatClampNeg + n.toNatClampNeg ≤ n0) (h5 : dp.toNatClampNeg + n.toNatClampNeg ≤ n1) (hdd : 1 ≤ d) (hroom : (rest.map fun v => v.category).sum ≤ 8) (hd : decode cc pc = .ok (.invokestatic index, 3)) (hq : pc + 3 = q)
    (k : J g d K nL Φ q loc rest (va_up w z1 (.inl (gI g, n1, .inl (va_cpy f f1 sp.toNatClampNeg dp.toNatClampNeg n.toNatClampNeg))))) : J g d K nL Φ pc loc (.int n :: .int dp :: .ref (gr g z1) :: .int sp :: .ref (gr g z0) :: rest) w := by
  obtain ⟨p, e, s, m, args, below, meth, c⟩ := K
  obtain ⟨hx, hb, hml, hr, hlk, ho, ht, hD, hSt⟩ := h
  subst hq
  intro H locs ls hP hS hl
  obtain ⟨k0, hk0, -⟩ := jl_ix g w hz0 hw0 rfl
  obtain ⟨k1, hk1, hs1⟩ := jl_ix g w hz1 hw1 rfl
  refine va_copyi hx hb (hml.trans hl.1.symm) ho (ht _ hm) (ht _ mSys_n) (ht _ mSys_s) (ht _ mN_System) hSt.2.1 hP (jl_D hD w) hS k0 k1 0 0 hk0 hk1 rfl rfl rfl h1 h2 h3 h4 h5 (fun _ _ => rfl) hdd ?_ hd (fun H1 locs1 hP1 hD1 hS1 => ?_)
  · show _ + (nativeFrameWords "java/lang/System" "arraycopy" 5 + 11) ≤ 40 * d
    have e1 : nativeFrameWords "java/lang/System" "arraycopy" 5 = 7 := by decide +kernel
    rw [e1]
    omega
  · rw [hs1 _ rfl] at hP1
    exact k H1 locs1 ls hP1 hS1 hl
/-! THE CLASS's WORLD: the object, its rows, the pad, the tables -/
abbrev Xs : Type := Ts × Ts × (Nat → Ts) × (Nat → Ts) × (Nat → Int32) × (Nat → Int32) × Int32 × (Nat → Int32) × Int32 × Int32
abbrev Xnow (X : Xs) : Ts := X.1
abbrev Xtri (X : Xs) : Ts := X.2.1
abbrev Xpa (X : Xs) : Nat → Ts := X.2.2.1
abbrev Xsl (X : Xs) : Nat → Ts := X.2.2.2.1
abbrev Xsv (X : Xs) : Nat → Int32 := X.2.2.2.2.1
abbrev Xsg (X : Xs) : Nat → Int32 := X.2.2.2.2.2.1
abbrev Xln (X : Xs) : Int32 := X.2.2.2.2.2.2.1
abbrev Xmv (X : Xs) : Nat → Int32 := X.2.2.2.2.2.2.2.1
abbrev Xnp (X : Xs) : Int32 := X.2.2.2.2.2.2.2.2.1
abbrev Xud (X : Xs) : Int32 := X.2.2.2.2.2.2.2.2.2
abbrev yNow (X : Xs) (T : Ts) : Xs := (T, X.2)
abbrev yTri (X : Xs) (T : Ts) : Xs := (X.1, T, X.2.2)
abbrev yPa (X : Xs) (P : Nat → Ts) : Xs := (X.1, X.2.1, P, X.2.2.2)
abbrev ySl (X : Xs) (P : Nat → Ts) : Xs := (X.1, X.2.1, X.2.2.1, P, X.2.2.2.2)
abbrev ySv (X : Xs) (f : Nat → Int32) : Xs := (X.1, X.2.1, X.2.2.1, X.2.2.2.1, f, X.2.2.2.2.2)
abbrev ySg (X : Xs) (f : Nat → Int32) : Xs := (X.1, X.2.1, X.2.2.1, X.2.2.2.1, X.2.2.2.2.1, f, X.2.2.2.2.2.2)
abbrev yLn (X : Xs) (v : Int32) : Xs := (X.1, X.2.1, X.2.2.1, X.2.2.2.1, X.2.2.2.2.1, X.2.2.2.2.2.1, v, X.2.2.2.2.2.2.2)
abbrev yMv (X : Xs) (f : Nat → Int32) : Xs := (X.1, X.2.1, X.2.2.1, X.2.2.2.1, X.2.2.2.2.1, X.2.2.2.2.2.1, X.2.2.2.2.2.2.1, f, X.2.2.2.2.2.2.2.2)
abbrev yNp (X : Xs) (v : Int32) : Xs := (X.1, X.2.1, X.2.2.1, X.2.2.2.1, X.2.2.2.2.1, X.2.2.2.2.2.1, X.2.2.2.2.2.2.1, X.2.2.2.2.2.2.2.1, v, X.2.2.2.2.2.2.2.2.2)
abbrev yUd (X : Xs) (v : Int32) : Xs := (X.1, X.2.1, X.2.2.1, X.2.2.2.1, X.2.2.2.2.1, X.2.2.2.2.2.1, X.2.2.2.2.2.2.1, X.2.2.2.2.2.2.2.1, X.2.2.2.2.2.2.2.2.1, v)
abbrev xobj (g : jG) (np ud : Int32) : va_E := .inr (2, [.ref (gr g 7), .ref (gr g 13), .ref (gr g 2), .ref (gr g 3), .ref (gr g 4), .ref (gr g 5), .ref (gr g 1), .int np, .int ud])
abbrev xpad (g : jG) (ln : Int32) : va_E := .inr (0, [.ref (gr g 6), .int ln])
abbrev xrow (g : jG) (n b : Nat) : va_E := .inl (gT g, n, .inr (.inr (.inr (.inr (fun i => some (gr g (b + 6 * i)))))))
def xcell (g : jG) (X : Xs) (k : Nat) : va_E := match k with
  | 0 => xobj g (Xnp X) (Xud X)
  | 1 => .inl (gI g, 170, .inl (Xmv X))
  | 2 => xrow g 6 19
  | 3 => xrow g 2 55
  | 4 => .inl (gZ g, 2, .inl (Xsv X))
  | 5 => xpad g (Xln X)
  | _ => .inl (gI g, 60, .inl (Xsg X))
/-- which table stands at a place -/
def xtab (X : Xs) (p : Nat) : Ts := if p < 13 then Xnow X else if p < 19 then Xtri X else if p < 55 then Xpa X ((p - 19) / 6) else Xsl X ((p - 55) / 6)
def xw (g : jG) (w : jW) (X : Xs) : jW := fun p => if p < 7 then xcell g X p else if p < 67 then tcell g (p - (p - 7) % 6) (xtab X p) ((p - 7) % 6) else w p
theorem xw_k (g : jG) (w : jW) (X : Xs) {k : Nat} (h : k < 7) : xw g w X k = xcell g X k := if_pos h
theorem xw_0 (g : jG) (w : jW) (X : Xs) : xw g w X 0 = xobj g (Xnp X) (Xud X) := rfl
theorem xw_1 (g : jG) (w : jW) (X : Xs) : xw g w X 1 = .inl (gI g, 170, .inl (Xmv X)) := rfl
theorem xw_2 (g : jG) (w : jW) (X : Xs) : xw g w X 2 = xrow g 6 19 := rfl
theorem xw_3 (g : jG) (w : jW) (X : Xs) : xw g w X 3 = xrow g 2 55 := rfl
theorem xw_4 (g : jG) (w : jW) (X : Xs) : xw g w X 4 = .inl (gZ g, 2, .inl (Xsv X)) := rfl
theorem xw_5 (g : jG) (w : jW) (X : Xs) : xw g w X 5 = xpad g (Xln X) := rfl
theorem xw_6 (g : jG) (w : jW) (X : Xs) : xw g w X 6 = .inl (gI g, 60, .inl (Xsg X)) := rfl
theorem xw_t (g : jG) (w : jW) (X : Xs) {i k : Nat} (hi : i < 10) (hk : k < 6) : xw g w X (7 + 6 * i + k) = tcell g (7 + 6 * i) (xtab X (7 + 6 * i)) k := by
  unfold xw
  rw [if_neg (by omega), if_pos (by omega), show (7 + 6 * i + k - 7) % 6 = k by omega, show 7 + 6 * i + k - k = 7 + 6 * i by omega]
  congr 1
  unfold xtab
  by_cases h1 : i = 0
  · subst h1; rw [if_pos (show 7 + 6 * 0 + k < 13 by omega), if_pos (show 7 + 6 * 0 < 13 by omega)]
  · rw [if_neg (show ¬ 7 + 6 * i + k < 13 by omega), if_neg (show ¬ 7 + 6 * i < 13 by omega)]
    by_cases h2 : i = 1
    · subst h2; rw [if_pos (show 7 + 6 * 1 + k < 19 by omega), if_pos (show 7 + 6 * 1 < 19 by omega)]
    · rw [if_neg (show ¬ 7 + 6 * i + k < 19 by omega), if_neg (show ¬ 7 + 6 * i < 19 by omega)]
      by_cases h3 : i < 8
      · rw [if_pos (show 7 + 6 * i + k < 55 by omega), if_pos (show 7 + 6 * i < 55 by omega)]; congr 1; omega
      · rw [if_neg (show ¬ 7 + 6 * i + k < 55 by omega), if_neg (show ¬ 7 + 6 * i < 55 by omega)]; congr 1; omega
theorem xw_tab (g : jG) (w : jW) (X : Xs) {i : Nat} (hi : i < 10) : tab g (xw g w X) (7 + 6 * i) (xtab X (7 + 6 * i)) = xw g w X :=
  tab_self (fun k hk => xw_t g w X hi hk)
theorem xw_uk {g : jG} {w : jW} {X X' : Xs} (k : Nat) (h : k < 7) {c : va_E} (hc : xcell g X' k = c) (ho : ∀ j, j < 7 → j ≠ k → xcell g X' j = xcell g X j) (ht : ∀ p, 7 ≤ p → p < 67 → xtab X' p = xtab X p) : va_up (xw g w X) k c = xw g w X' := by
  funext p
  by_cases hp : p = k
  · subst hp; rw [up_at, xw_k g w X' h, hc]
  · rw [up_ne _ _ hp]
    by_cases h7 : p < 7
    · rw [xw_k g w X h7, xw_k g w X' h7, ho p h7 hp]
    · unfold xw
      rw [if_neg h7, if_neg h7]
      by_cases h67 : p < 67
      · rw [if_pos h67, if_pos h67, ht p (by omega) h67]
      · rw [if_neg h67, if_neg h67]
theorem sevn {P : Nat → Prop} (h0 : P 0) (h1 : P 1) (h2 : P 2) (h3 : P 3) (h4 : P 4) (h5 : P 5) (h6 : P 6) : ∀ j, j < 7 → P j := by
  intro j hj
  match j, hj with
  | 0, _ => exact h0
  | 1, _ => exact h1
  | 2, _ => exact h2
  | 3, _ => exact h3
  | 4, _ => exact h4
  | 5, _ => exact h5
  | 6, _ => exact h6
theorem xw_u0 {g : jG} {w : jW} {X : Xs} {np ud : Int32} : va_up (xw g w X) 0 (xobj g np ud) = xw g w (yUd (yNp X np) ud) :=
  xw_uk 0 (by decide) rfl (sevn (fun h => absurd rfl h) (fun _ => rfl) (fun _ => rfl) (fun _ => rfl) (fun _ => rfl) (fun _ => rfl) (fun _ => rfl)) (fun _ _ _ => rfl)
theorem xw_u1 {g : jG} {w : jW} {X : Xs} {f : Nat → Int32} : va_up (xw g w X) 1 (.inl (gI g, 170, .inl f)) = xw g w (yMv X f) :=
  xw_uk 1 (by decide) rfl (sevn (fun _ => rfl) (fun h => absurd rfl h) (fun _ => rfl) (fun _ => rfl) (fun _ => rfl) (fun _ => rfl) (fun _ => rfl)) (fun _ _ _ => rfl)
theorem xw_u4 {g : jG} {w : jW} {X : Xs} {f : Nat → Int32} : va_up (xw g w X) 4 (.inl (gZ g, 2, .inl f)) = xw g w (ySv X f) :=
  xw_uk 4 (by decide) rfl (sevn (fun _ => rfl) (fun _ => rfl) (fun _ => rfl) (fun _ => rfl) (fun h => absurd rfl h) (fun _ => rfl) (fun _ => rfl)) (fun _ _ _ => rfl)
theorem xw_u5 {g : jG} {w : jW} {X : Xs} {ln : Int32} : va_up (xw g w X) 5 (xpad g ln) = xw g w (yLn X ln) :=
  xw_uk 5 (by decide) rfl (sevn (fun _ => rfl) (fun _ => rfl) (fun _ => rfl) (fun _ => rfl) (fun _ => rfl) (fun h => absurd rfl h) (fun _ => rfl)) (fun _ _ _ => rfl)
theorem xw_u6 {g : jG} {w : jW} {X : Xs} {f : Nat → Int32} : va_up (xw g w X) 6 (.inl (gI g, 60, .inl f)) = xw g w (ySg X f) :=
  xw_uk 6 (by decide) rfl (sevn (fun _ => rfl) (fun _ => rfl) (fun _ => rfl) (fun _ => rfl) (fun _ => rfl) (fun _ => rfl) (fun h => absurd rfl h)) (fun _ _ _ => rfl)
/-- the class's tables by number: 0 now, 1 trial, 2 .. 7 past, 8, 9 slots -/
def yTab (X : Xs) (i : Nat) (T : Ts) : Xs := if i = 0 then yNow X T else if i = 1 then yTri X T else if i < 8 then yPa X (fun j => if j = i - 2 then T else Xpa X j) else ySl X (fun j => if j = i - 8 then T else Xsl X j)
theorem xw_ut (g : jG) (w : jW) (X : Xs) {i : Nat} (hi : i < 10) (T : Ts) : tab g (xw g w X) (7 + 6 * i) T = xw g w (yTab X i T) := by
  have hc : ∀ k, k < 7 → xcell g (yTab X i T) k = xcell g X k := by
    intro k hk
    unfold yTab
    split
    · exact sevn (P := fun k => xcell g (yNow X T) k = xcell g X k) rfl rfl rfl rfl rfl rfl rfl k hk
    · split
      · exact sevn (P := fun k => xcell g (yTri X T) k = xcell g X k) rfl rfl rfl rfl rfl rfl rfl k hk
      · split
        · exact sevn (P := fun k => xcell g (yPa X _) k = xcell g X k) rfl rfl rfl rfl rfl rfl rfl k hk
        · exact sevn (P := fun k => xcell g (ySl X _) k = xcell g X k) rfl rfl rfl rfl rfl rfl rfl k hk
  have ht : ∀ j, j < 10 → xtab (yTab X i T) (7 + 6 * j) = if j = i then T else xtab X (7 + 6 * j) := by
    intro j hj
    unfold xtab yTab
    by_cases a0 : i = 0
    · rw [if_pos a0]
      by_cases b0 : j = 0
      · rw [if_pos (by omega), if_pos (by omega)]
      · rw [if_neg (show ¬ 7 + 6 * j < 13 by omega), if_neg (show ¬ j = i by omega), if_neg (show ¬ 7 + 6 * j < 13 by omega)]
    · rw [if_neg a0]
      by_cases a1 : i = 1
      · rw [if_pos a1]
        by_cases b0 : j = 0
        · rw [if_pos (by omega), if_neg (by omega), if_pos (by omega)]
        · rw [if_neg (show ¬ 7 + 6 * j < 13 by omega)]
          by_cases b1 : j = 1
          · rw [if_pos (by omega), if_pos (by omega)]
          · rw [if_neg (show ¬ 7 + 6 * j < 19 by omega), if_neg (show ¬ j = i by omega), if_neg (show ¬ 7 + 6 * j < 13 by omega), if_neg (show ¬ 7 + 6 * j < 19 by omega)]
      · rw [if_neg a1]
        by_cases a2 : i < 8
        · rw [if_pos a2]
          by_cases b0 : j = 0
          · rw [if_pos (by omega), if_neg (by omega), if_pos (by omega)]
          · rw [if_neg (show ¬ 7 + 6 * j < 13 by omega)]
            by_cases b1 : j = 1
            · rw [if_pos (by omega), if_neg (by omega), if_neg (by omega), if_pos (by omega)]
            · rw [if_neg (show ¬ 7 + 6 * j < 19 by omega)]
              by_cases b2 : j < 8
              · rw [if_pos (show 7 + 6 * j < 55 by omega)]
                show (if (7 + 6 * j - 19) / 6 = i - 2 then T else Xpa X ((7 + 6 * j - 19) / 6)) = _
                by_cases b3 : j = i
                · rw [if_pos (by omega), if_pos b3]
                · rw [if_neg (by omega), if_neg b3, if_neg (show ¬ 7 + 6 * j < 13 by omega), if_neg (show ¬ 7 + 6 * j < 19 by omega), if_pos (show 7 + 6 * j < 55 by omega)]
              · rw [if_neg (show ¬ 7 + 6 * j < 55 by omega), if_neg (show ¬ j = i by omega), if_neg (show ¬ 7 + 6 * j < 13 by omega), if_neg (show ¬ 7 + 6 * j < 19 by omega), if_neg (show ¬ 7 + 6 * j < 55 by omega)]
        · rw [if_neg a2]
          by_cases b0 : j = 0
          · rw [if_pos (by omega), if_neg (by omega), if_pos (by omega)]
          · rw [if_neg (show ¬ 7 + 6 * j < 13 by omega)]
            by_cases b1 : j = 1
            · rw [if_pos (by omega), if_neg (by omega), if_neg (by omega), if_pos (by omega)]
            · rw [if_neg (show ¬ 7 + 6 * j < 19 by omega)]
              by_cases b2 : j < 8
              · rw [if_pos (show 7 + 6 * j < 55 by omega), if_neg (by omega), if_neg (show ¬ 7 + 6 * j < 13 by omega), if_neg (show ¬ 7 + 6 * j < 19 by omega), if_pos (show 7 + 6 * j < 55 by omega)]
              · rw [if_neg (show ¬ 7 + 6 * j < 55 by omega)]
                show (if (7 + 6 * j - 55) / 6 = i - 8 then T else Xsl X ((7 + 6 * j - 55) / 6)) = _
                by_cases b3 : j = i
                · rw [if_pos (by omega), if_pos b3]
                · rw [if_neg (by omega), if_neg b3, if_neg (show ¬ 7 + 6 * j < 13 by omega), if_neg (show ¬ 7 + 6 * j < 19 by omega), if_neg (show ¬ 7 + 6 * j < 55 by omega)]
  funext p
  by_cases h7 : p < 7
  · rw [tab_ne _ _ _ _ (by omega), xw_k g w X h7, xw_k g w _ h7, hc p h7]
  · by_cases h67 : p < 67
    · obtain ⟨j, k, hj, hk, rfl⟩ : ∃ j k, j < 10 ∧ k < 6 ∧ p = 7 + 6 * j + k := ⟨(p - 7) / 6, (p - 7) % 6, by omega, by omega, by omega⟩
      rw [xw_t g w _ hj hk, ht j hj]
      by_cases e : j = i
      · subst e; rw [tab_k _ _ _ _ k hk, if_pos rfl]
      · rw [if_neg e, tab_ne _ _ _ _ (by omega), xw_t g w X hj hk]
    · rw [tab_ne _ _ _ _ (by omega)]
      unfold xw
      rw [if_neg h7, if_neg h67, if_neg h7, if_neg h67]
theorem xt_0 (X : Xs) : xtab X (7 + 6 * 0) = Xnow X := rfl
theorem xt_1 (X : Xs) : xtab X (7 + 6 * 1) = Xtri X := rfl
theorem xt_p (X : Xs) {i : Nat} (hi : i < 6) : xtab X (7 + 6 * (2 + i)) = Xpa X i := by
  unfold xtab; rw [if_neg (by omega), if_neg (by omega), if_pos (by omega)]; congr 1; omega
theorem xt_s (X : Xs) {i : Nat} (hi : i < 2) : xtab X (7 + 6 * (8 + i)) = Xsl X i := by
  unfold xtab; rw [if_neg (by omega), if_neg (by omega), if_neg (by omega)]; congr 1; omega
/-- a copy of a table, as far as it is looked at -/
def CPY (T U : Ts) : Prop := (∀ k, k < 650 → Tcd U k = Tcd T k) ∧ (∀ k, k < 22 → Tsz U k = Tsz T k) ∧ (∀ k, k < 2 → Tpt U k = Tpt T k) ∧ (∀ k, k < 2 → Tfz U k = Tfz T k) ∧ (∀ k, k < 8 → Tth U k = Tth T k) ∧ Ttp U = Ttp T ∧ Tdr U = Tdr T ∧ Tmv U = Tmv T ∧ Tov U = Tov T
theorem CPY_TR {T U : Ts} {γ : Gm} (c : CPY T U) (R : TR T γ) (G : GI γ) : TR U γ := by
  obtain ⟨c1, c2, c3, c4, c5, c6, c7, c8, c9⟩ := c
  obtain ⟨r1, r2, r3, r4, r5, r6, r7, r8, r9⟩ := R
  refine ⟨fun p hp => by rw [c2 p hp]; exact r1 p hp, fun p i hp hi => by have := G_f G hp; rw [c1 _ (by omega)]; exact r2 p i hp hi, fun s hs => by rw [c3 s hs]; exact r3 s hs, fun s hs => by rw [c4 s hs]; exact r4 s hs, fun k hk => by rw [c5 k hk]; exact r5 k hk, c6.trans r6, c7.trans r7, c8.trans r8, c9.trans r9⟩
theorem cpy_in {f h : Nat → Int32} {n k : Nat} (hk : k < n) : va_cpy f h 0 0 n k = f k := by
  unfold va_cpy
  rw [if_pos ⟨Nat.zero_le _, by omega⟩, Nat.zero_add, Nat.sub_zero]
