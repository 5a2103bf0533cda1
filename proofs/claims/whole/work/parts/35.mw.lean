/-! THE REFERENCE's WORLD: its object at the place 67, its rows behind it. -/
abbrev Ms : Type := (Nat → Int32) × (Nat → Int32) × (Nat → Int32) × Int32 × (Nat → Int32) × (Nat → Int32) × (Nat → Int32) × Int32 × (Nat → Int32) × (Nat → Int32) × (Nat → Int32) × Int32 × Int32 × Int32 × Int32 × Int32 × Int32
abbrev Mst (M : Ms) : Nat → Int32 := M.1
abbrev Mkp (M : Ms) : Nat → Int32 := M.2.1
abbrev Mhs (M : Ms) : Nat → Int32 := M.2.2.1
abbrev Mrc (M : Ms) : Int32 := M.2.2.2.1
abbrev Msl (M : Ms) : Nat → Int32 := M.2.2.2.2.1
abbrev Msv (M : Ms) : Nat → Int32 := M.2.2.2.2.2.1
abbrev Mpd (M : Ms) : Nat → Int32 := M.2.2.2.2.2.2.1
abbrev Mpl (M : Ms) : Int32 := M.2.2.2.2.2.2.2.1
abbrev Msz (M : Ms) : Nat → Int32 := M.2.2.2.2.2.2.2.2.1
abbrev Mtp (M : Ms) : Nat → Int32 := M.2.2.2.2.2.2.2.2.2.1
abbrev Mpk (M : Ms) : Nat → Int32 := M.2.2.2.2.2.2.2.2.2.2.1
abbrev Mmf (M : Ms) : Int32 := M.2.2.2.2.2.2.2.2.2.2.2.1
abbrev Mmt (M : Ms) : Int32 := M.2.2.2.2.2.2.2.2.2.2.2.2.1
abbrev Mat (M : Ms) : Int32 := M.2.2.2.2.2.2.2.2.2.2.2.2.2.1
abbrev Mle (M : Ms) : Int32 := M.2.2.2.2.2.2.2.2.2.2.2.2.2.2.1
abbrev Mfi (M : Ms) : Int32 := M.2.2.2.2.2.2.2.2.2.2.2.2.2.2.2.1
abbrev Mse (M : Ms) : Int32 := M.2.2.2.2.2.2.2.2.2.2.2.2.2.2.2.2
abbrev sst (M : Ms) (x : Nat → Int32) : Ms := (x, M.2)
abbrev skp (M : Ms) (x : Nat → Int32) : Ms := (M.1, x, M.2.2)
abbrev shs (M : Ms) (x : Nat → Int32) : Ms := (M.1, M.2.1, x, M.2.2.2)
abbrev src (M : Ms) (x : Int32) : Ms := (M.1, M.2.1, M.2.2.1, x, M.2.2.2.2)
abbrev ssl (M : Ms) (x : Nat → Int32) : Ms := (M.1, M.2.1, M.2.2.1, M.2.2.2.1, x, M.2.2.2.2.2)
abbrev ssv (M : Ms) (x : Nat → Int32) : Ms := (M.1, M.2.1, M.2.2.1, M.2.2.2.1, M.2.2.2.2.1, x, M.2.2.2.2.2.2)
abbrev spd (M : Ms) (x : Nat → Int32) : Ms := (M.1, M.2.1, M.2.2.1, M.2.2.2.1, M.2.2.2.2.1, M.2.2.2.2.2.1, x, M.2.2.2.2.2.2.2)
abbrev spl (M : Ms) (x : Int32) : Ms := (M.1, M.2.1, M.2.2.1, M.2.2.2.1, M.2.2.2.2.1, M.2.2.2.2.2.1, M.2.2.2.2.2.2.1, x, M.2.2.2.2.2.2.2.2)
abbrev ssz (M : Ms) (x : Nat → Int32) : Ms := (M.1, M.2.1, M.2.2.1, M.2.2.2.1, M.2.2.2.2.1, M.2.2.2.2.2.1, M.2.2.2.2.2.2.1, M.2.2.2.2.2.2.2.1, x, M.2.2.2.2.2.2.2.2.2)
abbrev stp (M : Ms) (x : Nat → Int32) : Ms := (M.1, M.2.1, M.2.2.1, M.2.2.2.1, M.2.2.2.2.1, M.2.2.2.2.2.1, M.2.2.2.2.2.2.1, M.2.2.2.2.2.2.2.1, M.2.2.2.2.2.2.2.2.1, x, M.2.2.2.2.2.2.2.2.2.2)
abbrev spk (M : Ms) (x : Nat → Int32) : Ms := (M.1, M.2.1, M.2.2.1, M.2.2.2.1, M.2.2.2.2.1, M.2.2.2.2.2.1, M.2.2.2.2.2.2.1, M.2.2.2.2.2.2.2.1, M.2.2.2.2.2.2.2.2.1, M.2.2.2.2.2.2.2.2.2.1, x, M.2.2.2.2.2.2.2.2.2.2.2)
abbrev smf (M : Ms) (x : Int32) : Ms := (M.1, M.2.1, M.2.2.1, M.2.2.2.1, M.2.2.2.2.1, M.2.2.2.2.2.1, M.2.2.2.2.2.2.1, M.2.2.2.2.2.2.2.1, M.2.2.2.2.2.2.2.2.1, M.2.2.2.2.2.2.2.2.2.1, M.2.2.2.2.2.2.2.2.2.2.1, x, M.2.2.2.2.2.2.2.2.2.2.2.2)
abbrev smt (M : Ms) (x : Int32) : Ms := (M.1, M.2.1, M.2.2.1, M.2.2.2.1, M.2.2.2.2.1, M.2.2.2.2.2.1, M.2.2.2.2.2.2.1, M.2.2.2.2.2.2.2.1, M.2.2.2.2.2.2.2.2.1, M.2.2.2.2.2.2.2.2.2.1, M.2.2.2.2.2.2.2.2.2.2.1, M.2.2.2.2.2.2.2.2.2.2.2.1, x, M.2.2.2.2.2.2.2.2.2.2.2.2.2)
abbrev sat (M : Ms) (x : Int32) : Ms := (M.1, M.2.1, M.2.2.1, M.2.2.2.1, M.2.2.2.2.1, M.2.2.2.2.2.1, M.2.2.2.2.2.2.1, M.2.2.2.2.2.2.2.1, M.2.2.2.2.2.2.2.2.1, M.2.2.2.2.2.2.2.2.2.1, M.2.2.2.2.2.2.2.2.2.2.1, M.2.2.2.2.2.2.2.2.2.2.2.1, M.2.2.2.2.2.2.2.2.2.2.2.2.1, x, M.2.2.2.2.2.2.2.2.2.2.2.2.2.2)
abbrev sle (M : Ms) (x : Int32) : Ms := (M.1, M.2.1, M.2.2.1, M.2.2.2.1, M.2.2.2.2.1, M.2.2.2.2.2.1, M.2.2.2.2.2.2.1, M.2.2.2.2.2.2.2.1, M.2.2.2.2.2.2.2.2.1, M.2.2.2.2.2.2.2.2.2.1, M.2.2.2.2.2.2.2.2.2.2.1, M.2.2.2.2.2.2.2.2.2.2.2.1, M.2.2.2.2.2.2.2.2.2.2.2.2.1, M.2.2.2.2.2.2.2.2.2.2.2.2.2.1, x, M.2.2.2.2.2.2.2.2.2.2.2.2.2.2.2)
abbrev sfi (M : Ms) (x : Int32) : Ms := (M.1, M.2.1, M.2.2.1, M.2.2.2.1, M.2.2.2.2.1, M.2.2.2.2.2.1, M.2.2.2.2.2.2.1, M.2.2.2.2.2.2.2.1, M.2.2.2.2.2.2.2.2.1, M.2.2.2.2.2.2.2.2.2.1, M.2.2.2.2.2.2.2.2.2.2.1, M.2.2.2.2.2.2.2.2.2.2.2.1, M.2.2.2.2.2.2.2.2.2.2.2.2.1, M.2.2.2.2.2.2.2.2.2.2.2.2.2.1, M.2.2.2.2.2.2.2.2.2.2.2.2.2.2.1, x, M.2.2.2.2.2.2.2.2.2.2.2.2.2.2.2.2)
abbrev sse (M : Ms) (x : Int32) : Ms := (M.1, M.2.1, M.2.2.1, M.2.2.2.1, M.2.2.2.2.1, M.2.2.2.2.2.1, M.2.2.2.2.2.2.1, M.2.2.2.2.2.2.2.1, M.2.2.2.2.2.2.2.2.1, M.2.2.2.2.2.2.2.2.2.1, M.2.2.2.2.2.2.2.2.2.2.1, M.2.2.2.2.2.2.2.2.2.2.2.1, M.2.2.2.2.2.2.2.2.2.2.2.2.1, M.2.2.2.2.2.2.2.2.2.2.2.2.2.1, M.2.2.2.2.2.2.2.2.2.2.2.2.2.2.1, M.2.2.2.2.2.2.2.2.2.2.2.2.2.2.2.1, x)
abbrev mobj (g : jG) (rc_ pl_ mf_ mt_ at_ le_ fi_ se_ : Int32) : va_E := .inr (3, [.ref (gr g 68), .ref (gr g 69), .ref (gr g 70), .int rc_, .ref (gr g 71), .ref (gr g 72), .ref (gr g 73), .int pl_, .ref (gr g 74), .ref (gr g 75), .ref (gr g 76), .int mf_, .int mt_, .int at_, .int le_, .int fi_, .int se_])
def mcell (g : jG) (M : Ms) (k : Nat) : va_E := match k with
  | 0 => mobj g (Mrc M) (Mpl M) (Mmf M) (Mmt M) (Mat M) (Mle M) (Mfi M) (Mse M)
  | 1 => .inl (gI g, 224, .inl (Mst M))
  | 2 => .inl (gI g, 224, .inl (Mkp M))
  | 3 => .inl (gI g, 1344, .inl (Mhs M))
  | 4 => .inl (gI g, 448, .inl (Msl M))
  | 5 => .inl (gI g, 2, .inl (Msv M))
  | 6 => .inl (gI g, 60, .inl (Mpd M))
  | 7 => .inl (gI g, 22, .inl (Msz M))
  | 8 => .inl (gI g, 22, .inl (Mtp M))
  | _ => .inl (gI g, 52, .inl (Mpk M))
def mw (g : jG) (w : jW) (M : Ms) : jW := fun p => if 67 ≤ p ∧ p < 77 then mcell g M (p - 67) else w p
theorem mw_k (g : jG) (w : jW) (M : Ms) {k : Nat} (h : k < 10) : mw g w M (67 + k) = mcell g M k := by
  unfold mw
  rw [if_pos ⟨by omega, by omega⟩, Nat.add_sub_cancel_left]
theorem mw_ne (g : jG) (w : jW) (M : Ms) {p : Nat} (h : p < 67 ∨ 77 ≤ p) : mw g w M p = w p := by
  unfold mw
  rw [if_neg (by omega)]
theorem mw_0 (g : jG) (w : jW) (M : Ms) : mw g w M 67 = mobj g (Mrc M) (Mpl M) (Mmf M) (Mmt M) (Mat M) (Mle M) (Mfi M) (Mse M) := mw_k g w M (k := 0) (by decide)
theorem mw_uk {g : jG} {w : jW} {M M' : Ms} (k : Nat) (h : k < 10) {c : va_E} (hc : mcell g M' k = c) (ho : ∀ j, j < 10 → j ≠ k → mcell g M' j = mcell g M j) : va_up (mw g w M) (67 + k) c = mw g w M' := by
  funext p
  by_cases hp : p = 67 + k
  · subst hp
    rw [up_at, mw_k g w M' h, hc]
  · rw [up_ne _ _ hp]
    by_cases hr : 67 ≤ p ∧ p < 77
    · obtain ⟨j, rfl⟩ : ∃ j, p = 67 + j := ⟨p - 67, by omega⟩
      rw [mw_k g w M (k := j) (by omega), mw_k g w M' (k := j) (by omega), ho j (by omega) (by omega)]
    · rw [mw_ne g w M (by omega), mw_ne g w M' (by omega)]
theorem ten {P : Nat → Prop} (h0 : P 0) (h1 : P 1) (h2 : P 2) (h3 : P 3) (h4 : P 4) (h5 : P 5) (h6 : P 6) (h7 : P 7) (h8 : P 8) (h9 : P 9) : ∀ j, j < 10 → P j := by
  intro j hj
  match j, hj with
  | 0, _ => exact h0
  | 1, _ => exact h1
  | 2, _ => exact h2
  | 3, _ => exact h3
  | 4, _ => exact h4
  | 5, _ => exact h5
  | 6, _ => exact h6
  | 7, _ => exact h7
  | 8, _ => exact h8
  | 9, _ => exact h9
theorem mw_st (g : jG) (w : jW) (M : Ms) : mw g w M 68 = .inl (gI g, 224, .inl (Mst M)) := mw_k g w M (k := 1) (by decide)
theorem mw_kp (g : jG) (w : jW) (M : Ms) : mw g w M 69 = .inl (gI g, 224, .inl (Mkp M)) := mw_k g w M (k := 2) (by decide)
theorem mw_hs (g : jG) (w : jW) (M : Ms) : mw g w M 70 = .inl (gI g, 1344, .inl (Mhs M)) := mw_k g w M (k := 3) (by decide)
theorem mw_sl (g : jG) (w : jW) (M : Ms) : mw g w M 71 = .inl (gI g, 448, .inl (Msl M)) := mw_k g w M (k := 4) (by decide)
theorem mw_sv (g : jG) (w : jW) (M : Ms) : mw g w M 72 = .inl (gI g, 2, .inl (Msv M)) := mw_k g w M (k := 5) (by decide)
theorem mw_pd (g : jG) (w : jW) (M : Ms) : mw g w M 73 = .inl (gI g, 60, .inl (Mpd M)) := mw_k g w M (k := 6) (by decide)
theorem mw_sz (g : jG) (w : jW) (M : Ms) : mw g w M 74 = .inl (gI g, 22, .inl (Msz M)) := mw_k g w M (k := 7) (by decide)
theorem mw_tp (g : jG) (w : jW) (M : Ms) : mw g w M 75 = .inl (gI g, 22, .inl (Mtp M)) := mw_k g w M (k := 8) (by decide)
theorem mw_pk (g : jG) (w : jW) (M : Ms) : mw g w M 76 = .inl (gI g, 52, .inl (Mpk M)) := mw_k g w M (k := 9) (by decide)
abbrev sints (M : Ms) (rc_ pl_ mf_ mt_ at_ le_ fi_ se_ : Int32) : Ms := (M.1, M.2.1, M.2.2.1, rc_, M.2.2.2.2.1, M.2.2.2.2.2.1, M.2.2.2.2.2.2.1, pl_, M.2.2.2.2.2.2.2.2.1, M.2.2.2.2.2.2.2.2.2.1, M.2.2.2.2.2.2.2.2.2.2.1, mf_, mt_, at_, le_, fi_, se_)
theorem mw_u0 {g : jG} {w : jW} {M : Ms} {rc_ pl_ mf_ mt_ at_ le_ fi_ se_ : Int32} : va_up (mw g w M) 67 (mobj g rc_ pl_ mf_ mt_ at_ le_ fi_ se_) = mw g w (sints M rc_ pl_ mf_ mt_ at_ le_ fi_ se_) :=
  mw_uk 0 (by decide) rfl (ten (fun h => absurd rfl h) (fun _ => rfl) (fun _ => rfl) (fun _ => rfl) (fun _ => rfl) (fun _ => rfl) (fun _ => rfl) (fun _ => rfl) (fun _ => rfl) (fun _ => rfl))
theorem mw_ust {g : jG} {w : jW} {M : Ms} {f : Nat → Int32} : va_up (mw g w M) 68 (.inl (gI g, 224, .inl f)) = mw g w (sst M f) :=
  mw_uk 1 (by decide) rfl (ten (fun _ => rfl) (fun h => absurd rfl h) (fun _ => rfl) (fun _ => rfl) (fun _ => rfl) (fun _ => rfl) (fun _ => rfl) (fun _ => rfl) (fun _ => rfl) (fun _ => rfl))
theorem mw_ukp {g : jG} {w : jW} {M : Ms} {f : Nat → Int32} : va_up (mw g w M) 69 (.inl (gI g, 224, .inl f)) = mw g w (skp M f) :=
  mw_uk 2 (by decide) rfl (ten (fun _ => rfl) (fun _ => rfl) (fun h => absurd rfl h) (fun _ => rfl) (fun _ => rfl) (fun _ => rfl) (fun _ => rfl) (fun _ => rfl) (fun _ => rfl) (fun _ => rfl))
theorem mw_uhs {g : jG} {w : jW} {M : Ms} {f : Nat → Int32} : va_up (mw g w M) 70 (.inl (gI g, 1344, .inl f)) = mw g w (shs M f) :=
  mw_uk 3 (by decide) rfl (ten (fun _ => rfl) (fun _ => rfl) (fun _ => rfl) (fun h => absurd rfl h) (fun _ => rfl) (fun _ => rfl) (fun _ => rfl) (fun _ => rfl) (fun _ => rfl) (fun _ => rfl))
theorem mw_usl {g : jG} {w : jW} {M : Ms} {f : Nat → Int32} : va_up (mw g w M) 71 (.inl (gI g, 448, .inl f)) = mw g w (ssl M f) :=
  mw_uk 4 (by decide) rfl (ten (fun _ => rfl) (fun _ => rfl) (fun _ => rfl) (fun _ => rfl) (fun h => absurd rfl h) (fun _ => rfl) (fun _ => rfl) (fun _ => rfl) (fun _ => rfl) (fun _ => rfl))
theorem mw_usv {g : jG} {w : jW} {M : Ms} {f : Nat → Int32} : va_up (mw g w M) 72 (.inl (gI g, 2, .inl f)) = mw g w (ssv M f) :=
  mw_uk 5 (by decide) rfl (ten (fun _ => rfl) (fun _ => rfl) (fun _ => rfl) (fun _ => rfl) (fun _ => rfl) (fun h => absurd rfl h) (fun _ => rfl) (fun _ => rfl) (fun _ => rfl) (fun _ => rfl))
theorem mw_upd {g : jG} {w : jW} {M : Ms} {f : Nat → Int32} : va_up (mw g w M) 73 (.inl (gI g, 60, .inl f)) = mw g w (spd M f) :=
  mw_uk 6 (by decide) rfl (ten (fun _ => rfl) (fun _ => rfl) (fun _ => rfl) (fun _ => rfl) (fun _ => rfl) (fun _ => rfl) (fun h => absurd rfl h) (fun _ => rfl) (fun _ => rfl) (fun _ => rfl))
theorem mw_usz {g : jG} {w : jW} {M : Ms} {f : Nat → Int32} : va_up (mw g w M) 74 (.inl (gI g, 22, .inl f)) = mw g w (ssz M f) :=
  mw_uk 7 (by decide) rfl (ten (fun _ => rfl) (fun _ => rfl) (fun _ => rfl) (fun _ => rfl) (fun _ => rfl) (fun _ => rfl) (fun _ => rfl) (fun h => absurd rfl h) (fun _ => rfl) (fun _ => rfl))
theorem mw_utp {g : jG} {w : jW} {M : Ms} {f : Nat → Int32} : va_up (mw g w M) 75 (.inl (gI g, 22, .inl f)) = mw g w (stp M f) :=
  mw_uk 8 (by decide) rfl (ten (fun _ => rfl) (fun _ => rfl) (fun _ => rfl) (fun _ => rfl) (fun _ => rfl) (fun _ => rfl) (fun _ => rfl) (fun _ => rfl) (fun h => absurd rfl h) (fun _ => rfl))
theorem mw_upk {g : jG} {w : jW} {M : Ms} {f : Nat → Int32} : va_up (mw g w M) 76 (.inl (gI g, 52, .inl f)) = mw g w (spk M f) :=
  mw_uk 9 (by decide) rfl (ten (fun _ => rfl) (fun _ => rfl) (fun _ => rfl) (fun _ => rfl) (fun _ => rfl) (fun _ => rfl) (fun _ => rfl) (fun _ => rfl) (fun _ => rfl) (fun h => absurd rfl h))
theorem j_ldn {g : jG} {d : Nat} {K : jK} {own : String} {cc : ByteArray} {nL : Nat} {r : Option FieldType} {Φ : Option Value → jW → Prop} {pc q : Nat} {loc : List (Nat × Value)} {rest : List Value} {w : jW} (h : jH g K own cc nL r) {z n : Nat} {f : Nat → Int32} {i : Int32} (k : Nat) (hz : z < NW) (hw : w z = .inl (gI g, n, .inl f)) (hi : i = nI k) (hk : k < n) (hn : n < 2 ^ 31) (hd : decode cc pc = .ok (.iaload, 1)) (hq : pc + 1 = q)
    (kk : J g d K nL Φ q loc (.int (f k) :: rest) w) : J g d K nL Φ pc loc (.int i :: .ref (gr g z) :: rest) w := by
  subst hi
  refine j_iald h hz hw (vp_in_nI hk hn) hd hq ?_
  rw [nI_clamp (Nat.lt_trans hk hn)]
  exact kk
theorem j_stn {g : jG} {d : Nat} {K : jK} {own : String} {cc : ByteArray} {nL : Nat} {r : Option FieldType} {Φ : Option Value → jW → Prop} {pc q : Nat} {loc : List (Nat × Value)} {rest : List Value} {w : jW} (h : jH g K own cc nL r) {z n : Nat} {f : Nat → Int32} {i x : Int32} (k : Nat) (hz : z < NW) (hw : w z = .inl (gI g, n, .inl f)) (hi : i = nI k) (hk : k < n) (hn : n < 2 ^ 31) (hd : decode cc pc = .ok (.iastore, 1)) (hq : pc + 1 = q)
    (kk : J g d K nL Φ q loc rest (va_up w z (.inl (gI g, n, .inl (upd f k x))))) : J g d K nL Φ pc loc (.int x :: .int i :: .ref (gr g z) :: rest) w := by
  subst hi
  refine j_iast h hz hw (vp_in_nI hk hn) hd hq ?_
  rw [nI_clamp (Nat.lt_trans hk hn)]
  exact kk
/-- what look() leaves -/
def LK (M : Ms) (γ : Gm) : Prop := ∀ p, p < 22 → Msz M p = nI (qn γ p) ∧ Mtp M p = ov (topO γ p)
theorem M_pl {st : Nat → Int32} {γ : Gm} (R : MR st γ) {p i : Nat} (hp : p < 22) (hi : i < qn γ p) : st (qc γ p i) = nI p ∧ st (104 + qc γ p i) = nI i := R.1 p i hp hi
theorem M_pf {st : Nat → Int32} {γ : Gm} (R : MR st γ) {s : Nat} (hs : s < 2) : st (208 + s) = qp γ s ∧ st (210 + s) = nI (qf γ s) := R.2.1 s hs
theorem M_fr {st : Nat → Int32} {γ : Gm} (R : MR st γ) {h : Nat} (hh : h < 8) : st (212 + h) = nI (qz γ h) := R.2.2.1 h hh
theorem M_sd {st : Nat → Int32} {γ : Gm} (R : MR st γ) : st 220 = nI (qt γ) := R.2.2.2.1
theorem M_ov {st : Nat → Int32} {γ : Gm} (R : MR st γ) : st 221 = b2i (qo γ) := R.2.2.2.2.1
theorem M_dr {st : Nat → Int32} {γ : Gm} (R : MR st γ) : st 222 = nI (qd γ) := R.2.2.2.2.2.1
theorem M_mv {st : Nat → Int32} {γ : Gm} (R : MR st γ) : st 223 = qm γ := R.2.2.2.2.2.2
