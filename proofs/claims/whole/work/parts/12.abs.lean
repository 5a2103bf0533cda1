theorem R_sz {T : Ts} {γ : Gm} (R : TR T γ) {p : Nat} (hp : p < 22) : Tsz T p = nI (qn γ p) := R.1 p hp
theorem R_cd {T : Ts} {γ : Gm} (R : TR T γ) {p i : Nat} (hp : p < 22) (hi : i < qn γ p) : Tcd T (fpv p + i) = nI (qc γ p i) := R.2.1 p i hp hi
theorem R_pt {T : Ts} {γ : Gm} (R : TR T γ) {s : Nat} (hs : s < 2) : Tpt T s = qp γ s := R.2.2.1 s hs
theorem R_fz {T : Ts} {γ : Gm} (R : TR T γ) {s : Nat} (hs : s < 2) : Tfz T s = nI (qf γ s) := R.2.2.2.1 s hs
theorem R_th {T : Ts} {γ : Gm} (R : TR T γ) {h : Nat} (hh : h < 8) : ∃ th, Tth T h = nI th ∧ th ≤ 203 ∧ qz γ h = th - qd γ := R.2.2.2.2.1 h hh
theorem R_tp {T : Ts} {γ : Gm} (R : TR T γ) : Ttp T = nI (qt γ) := R.2.2.2.2.2.1
theorem R_dr {T : Ts} {γ : Gm} (R : TR T γ) : Tdr T = nI (qd γ) := R.2.2.2.2.2.2.1
theorem R_mv {T : Ts} {γ : Gm} (R : TR T γ) : Tmv T = qm γ := R.2.2.2.2.2.2.2.1
theorem R_ov {T : Ts} {γ : Gm} (R : TR T γ) : Tov T = b2i (qo γ) := R.2.2.2.2.2.2.2.2
theorem G_n {γ : Gm} (G : GI γ) {p : Nat} (hp : p < 22) : qn γ p ≤ cap p := PI_cap G.1 hp
theorem G_n2 {γ : Gm} (G : GI γ) {p : Nat} (hp : p < 22) : qn γ p ≤ 104 := by
  have := G_n G hp
  unfold cap at this
  split at this <;> omega
theorem G_f {γ : Gm} (G : GI γ) {p : Nat} (hp : p < 22) : fpv p + qn γ p ≤ 650 := by
  have a := G_n G hp
  have b := fpv_cap hp
  omega
theorem G_c {γ : Gm} (G : GI γ) {p i : Nat} (hp : p < 22) (hi : i < qn γ p) : qc γ p i < 104 := G.1.1 p i hp hi
theorem G_k {γ : Gm} (G : GI γ) {p : Nat} (hp : p < 22) (h0 : 0 < qn γ p) : topK γ p < 104 := G_c G hp (by omega)
theorem G_t {γ : Gm} (G : GI γ) : qt γ < 2 := G.2.1
theorem G_o {γ : Gm} (G : GI γ) {p : Nat} (hp : p < 22) : oC (topO γ p) := by
  intro t ht
  unfold topO at ht
  by_cases h : qn γ p = 0
  · rw [if_pos h] at ht; cases ht
  · rw [if_neg h] at ht
    cases ht
    exact G_c G hp (by omega)
theorem top_eq {T : Ts} {γ : Gm} (R : TR T γ) {p : Nat} (hp : p < 22) : (if qn γ p = 0 then (-6 : Int32) else Tcd T (fpv p + (qn γ p - 1))) = ov (topO γ p) := by
  unfold topO
  by_cases h : qn γ p = 0
  · rw [if_pos h, if_pos h]; rfl
  · rw [if_neg h, if_neg h, R_cd R hp (by omega)]; rfl
theorem c_top (g : jG) (w : jW) (t : Nat) (ht : t + 6 ≤ NW) (T : Ts) (γ : Gm) (R : TR T γ) (G : GI γ) {a : Int32} {p : Nat} (ha : a = nI p) (hp : p < 22) : ConI g 1 yX1_topOf cX1_topOf 3 (some .int) [.ref (gr g t), .int a] (tab g w t T) (fun x w' => x = ov (topO γ p) ∧ w' = tab g w t T) := by
  have h := c_X1_topOf g w t ht T ha hp (qn γ p) (R_sz R hp) (G_f G hp)
  rw [top_eq R hp] at h
  exact h
theorem c_size (g : jG) (w : jW) (t : Nat) (ht : t + 6 ≤ NW) (T : Ts) (γ : Gm) (R : TR T γ) {a : Int32} {p : Nat} (ha : a = nI p) (hp : p < 22) : ConI g 1 yX1_sizeOf cX1_sizeOf 2 (some .int) [.ref (gr g t), .int a] (tab g w t T) (fun x w' => x = nI (qn γ p) ∧ w' = tab g w t T) := by
  have h := c_X1_sizeOf g w t ht T ha hp
  rw [R_sz R hp] at h
  exact h
def frzG (γ : Gm) (p : Nat) : Nat := bif isH p then qz γ (p - 6) else 0
def ownG (γ : Gm) (p : Nat) : Bool := isH p && (p - 6) / 4 == qt γ
theorem max_i {a b : Nat} (ha : a < 1000000) (hb : b < 1000000) : (if (0 : Int32) < nI a - nI b then nI a - nI b else 0) = nI (a - b) := by
  rcases Nat.le_total b a with h | h
  · rw [nI_sub h]
    by_cases z : a = b
    · subst z
      rw [Nat.sub_self, if_neg (by decide)]; rfl
    · rw [if_pos (show (0 : Int32) < nI (a - b) from (nI_ltS (a := 0) (by omega) (by omega)).mpr (by omega))]
  · have e : nI a - nI b = -nI (b - a) := by rw [← nI_sub h, Int32.neg_sub]
    rw [e, show a - b = 0 by omega, if_neg]
    · rfl
    · rw [i32_lt, i32_neg, nI_toInt (by omega)]
      have : (0 : Int32).toInt = 0 := rfl
      omega
