/-! WHAT EACH CALL ANSWERS AND LEAVES -/
abbrev inn (n : Nat) (a : Int32) : Prop := ¬ a < 0 ∧ a < nI n
abbrev vv (a : Int32) : Nat := a.toNatClampNeg
theorem inn_of {n : Nat} {a : Int32} (hn : n < 1000000) (h : inn n a) : ∃ k, k < n ∧ a = nI k ∧ vv a = k := by
  obtain ⟨k, hk, rfl⟩ := nI_of h.1
  have h2 := (nI_ltI hk (by omega)).mp h.2
  exact ⟨k, h2, rfl, nI_clamp hk⟩
theorem inn_n {n k : Nat} (hn : n < 1000000) (hk : k < n) : inn n (nI k) := ⟨nI_pos (by omega), (nI_ltS (by omega) hn).mpr hk⟩
def spDeal (σ : Sg) (a : Int32) : Int32 × Sg := if a < 0 then (-2, σ) else (ov (topO (dealG (vv a)) 0), recG σ (dealG (vv a)))
def spMove (σ : Sg) (a b : Int32) : Int32 × Sg := if inn 22 a ∧ inn 22 b then (bif okG (zg σ) (vv a) (vv b) then (gainG (zg σ) (vv a) (vv b), recG σ (moveG (zg σ) (vv a) (vv b))) else (-5, σ)) else (-1, σ)
def spDraw (σ : Sg) : Int32 × Sg := bif qo (zg σ) then (-5, σ) else (ov (drawO (zg σ)), recG σ (drawG (zg σ)))
def spFreeze (σ : Sg) (a : Int32) : Int32 × Sg := if inn 8 a then (bif okF (zg σ) (vv a) then (nI (qf (zg σ) (qt (zg σ)) - 1), recG σ (freezeG (zg σ) (vv a))) else (-5, σ)) else (-1, σ)
def spPlay (σ : Sg) (a : Int32) : Int32 × Sg := if ¬ a < 1 ∧ ¬ 60 < a then (nI (playN (vv a) (zg σ)), recG σ (playG (vv a) (zg σ))) else (-2, σ)
def spAll (σ : Sg) : Int32 × Sg := if faultG (zl σ) (zc σ) = none then (nI (allG (zl σ) (zc σ) (zl σ + 1) (zg σ) 0).2, wipeG (recG σ (allG (zl σ) (zc σ) (zl σ + 1) (zg σ) 0).1)) else (-3, σ)
def spPile (γ : Gm) (a b : Int32) : Int32 := if inn 22 a then (if b = 0 then nI (qn γ (vv a)) else if b = 1 then ov (topO γ (vv a)) else if b = 2 then nI (frzG γ (vv a)) else -2) else -1
def spCard (γ : Gm) (a b : Int32) : Int32 := if inn 22 a then (if inn (qn γ (vv a)) b then nI (qc γ (vv a) (vv b)) else -1) else -1
def spWhere (p0 i0 : Nat) (a b : Int32) : Int32 := if inn 104 a then (if b = 0 then nI p0 else if b = 1 then nI i0 else -2) else -1
def spSide (γ : Gm) (a b : Int32) : Int32 := if inn 2 a then (if b = 0 then qp γ (vv a) else if b = 1 then nI (qf γ (vv a)) else if b = 2 then nI (leftG (qn γ) (vv a)) else if b = 3 then nI (longG γ (vv a) 4) else -2) else -2
def spCount (σ : Sg) (b : Int32) : Int32 := if b = 0 then nI (qt (zg σ)) else if b = 1 then b2i (qo (zg σ)) else if b = 2 then nI (qd (zg σ)) else if b = 3 then qm (zg σ) else if b = 4 then nI (acesG (zg σ) 8) else if b = 5 then nI (LM (zg σ) 308).length else if b = 6 then nI (frzN (zg σ) 8) else if b = 7 then nI (zl σ) else if b = 8 then nI (zn σ) else -2
def mvG (γ : Gm) (a : Int32) : Nat := (LM γ 308).getD (vv a) 0
def spOf (γ : Gm) (a b : Int32) : Int32 := if inn (LM γ 308).length a then (if b = 0 then nI (mvG γ a / 22) else if b = 1 then nI (mvG γ a % 22) else if b = 2 then nI (ptM γ (mvG γ a)) else -2) else -1
def spIf (γ : Gm) (a b : Int32) : Int32 := if (¬ a < 1 ∧ ¬ 200 < a) ∧ ¬ b < 0 ∧ ¬ 3 < b then (if b = 0 then qp (playG (vv a) γ) 0 else if b = 1 then qp (playG (vv a) γ) 1 else if b = 2 then nI (acesG (playG (vv a) γ) 8) else nI (qd (playG (vv a) γ)) - nI (qd γ)) else -2
def spBuried (γ : Gm) (p0 i0 : Nat) (a : Int32) : Int32 := if inn 104 a then nI (qn γ p0 - 1 - i0 + bif (!qo γ && someA γ (vv a) 8) then 1000 else 0) else -1
def spUndo (σ : Sg) : Int32 × Sg := if zn σ = 0 then (-5, σ) else (nI (zn σ - 1), (zh σ 0, zn σ - 1, (fun i => zh σ (i + 1)), zs σ, zl σ, zc σ))
def spSave (σ : Sg) (a : Int32) : Int32 × Sg := if inn 2 a then (nI (qd (zg σ)), (zg σ, zn σ, zh σ, (fun i => if i = vv a then some (zg σ) else zs σ i), zl σ, zc σ)) else (-2, σ)
def spRestore (σ : Sg) (a : Int32) : Int32 × Sg := if inn 2 a then (match zs σ (vv a) with
    | none => (-5, σ)
    | some γ => (nI (qd γ), recG σ γ)) else (-2, σ)
theorem sw_last3 (x : Int32) (h : ¬ (x.toInt < 0 ∨ 2 < x.toInt)) (h0 : ¬ x = 0) (h1 : ¬ x = 1) : x = 2 := by
  rw [i32_eq] at h0 h1 ⊢
  have e0 : (0 : Int32).toInt = 0 := rfl
  have e1 : (1 : Int32).toInt = 1 := by decide
  have e2 : (2 : Int32).toInt = 2 := by decide
  omega
theorem sw_last4 (x : Int32) (h : ¬ (x.toInt < 0 ∨ 3 < x.toInt)) (h0 : ¬ x = 0) (h1 : ¬ x = 1) (h2 : ¬ x = 2) : x = 3 := by
  rw [i32_eq] at h0 h1 h2 ⊢
  have e0 : (0 : Int32).toInt = 0 := rfl
  have e1 : (1 : Int32).toInt = 1 := by decide
  have e2 : (2 : Int32).toInt = 2 := by decide
  have e3 : (3 : Int32).toInt = 3 := by decide
  omega
theorem sw_last9 (x : Int32) (h : ¬ (x.toInt < 0 ∨ 8 < x.toInt)) (h0 : ¬ x = 0) (h1 : ¬ x = 1) (h2 : ¬ x = 2) (h3 : ¬ x = 3) (h4 : ¬ x = 4) (h5 : ¬ x = 5) (h6 : ¬ x = 6) (h7 : ¬ x = 7) : x = 8 := by
  rw [i32_eq] at h0 h1 h2 h3 h4 h5 h6 h7 ⊢
  have e0 : (0 : Int32).toInt = 0 := rfl
  have e1 : (1 : Int32).toInt = 1 := by decide
  have e2 : (2 : Int32).toInt = 2 := by decide
  have e3 : (3 : Int32).toInt = 3 := by decide
  have e4 : (4 : Int32).toInt = 4 := by decide
  have e5 : (5 : Int32).toInt = 5 := by decide
  have e6 : (6 : Int32).toInt = 6 := by decide
  have e7 : (7 : Int32).toInt = 7 := by decide
  have e8 : (8 : Int32).toInt = 8 := by decide
  omega
theorem sw_out {x : Int32} {n k : Nat} (h : x.toInt < 0 ∨ (n : Int) < x.toInt) (hk : k ≤ n) (hn : n < 1000) : ¬ x = nI k := by
  intro e
  rw [e, nI_toInt (by omega)] at h
  omega
