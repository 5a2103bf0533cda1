/-! numbers, small words -/
def b2i (b : Bool) : Int32 := cond b 1 0
theorem b2i_0 {b : Bool} : b2i b = 0 ↔ b = false := by cases b <;> decide
theorem b2i_1 {b : Bool} : ¬ b2i b = 0 ↔ b = true := by cases b <;> decide
theorem b2i_t {b : Bool} (h : b = true) : 1 = b2i b := by rw [h]; rfl
theorem b2i_f {b : Bool} (h : b = false) : 0 = b2i b := by rw [h]; rfl
theorem b2i_dt {P : Prop} [Decidable P] (h : P) : 1 = b2i (decide P) := b2i_t (decide_eq_true h)
theorem b2i_df {P : Prop} [Decidable P] (h : ¬ P) : 0 = b2i (decide P) := b2i_f (decide_eq_false h)
theorem b2i_n (b : Bool) : narrow .boolean (.int (b2i b)) = .int (b2i b) := by cases b <;> rfl
theorem b2i_inj {a b : Bool} : b2i a = b2i b ↔ a = b := by cases a <;> cases b <;> decide
theorem i32_lt (a b : Int32) : a < b ↔ a.toInt < b.toInt := Int32.lt_iff_toInt_lt
theorem i32_le (a b : Int32) : a ≤ b ↔ a.toInt ≤ b.toInt := Int32.le_iff_toInt_le
theorem i32_eq (a b : Int32) : a = b ↔ a.toInt = b.toInt := Int32.toInt_inj.symm
theorem i32_0 : (0 : Int32).toInt = 0 := rfl
theorem i32_nI (n : Nat) : (nI n).toInt = ((n : Int) + 2147483648) % 4294967296 - 2147483648 := by
  show (Int32.ofNat n).toInt = _
  rw [Int32.toInt_ofNat', Int.bmod_def]
  simp only [Int32.size]
  split <;> omega
theorem i32_lit (n : Nat) : Int32.toInt (no_index (OfNat.ofNat n)) = ((n : Int) + 2147483648) % 4294967296 - 2147483648 := i32_nI n
theorem i32_add (a b : Int32) : (a + b).toInt = (a.toInt + b.toInt + 2147483648) % 4294967296 - 2147483648 := by
  rw [Int32.toInt_add, Int.bmod_def]
  split <;> omega
theorem i32_sub (a b : Int32) : (a - b).toInt = (a.toInt - b.toInt + 2147483648) % 4294967296 - 2147483648 := by
  rw [Int32.toInt_sub, Int.bmod_def]
  split <;> omega
theorem i32_neg (a : Int32) : (-a).toInt = (-a.toInt + 2147483648) % 4294967296 - 2147483648 := by
  rw [Int32.toInt_neg, Int.bmod_def]
  split <;> omega
theorem i32_mul (a b : Int32) : (a * b).toInt = (a.toInt * b.toInt + 2147483648) % 4294967296 - 2147483648 := by
  rw [Int32.toInt_mul, Int.bmod_def]
  split <;> omega
theorem i32_rng (a : Int32) : -2147483648 ≤ a.toInt ∧ a.toInt < 2147483648 := by
  have h1 := Int32.le_toInt a
  have h2 := Int32.toInt_lt a
  omega
theorem vp_in_c {i : Int32} {n : Nat} (hn : n < 2 ^ 31) (h0 : ¬ i < 0) (h1 : ¬ nI n ≤ i) : vp_in i n := by
  rw [vp_in_iff]
  rw [i32_lt] at h0
  rw [i32_le, nI_toInt hn] at h1
  have : (0 : Int32).toInt = 0 := rfl
  omega
theorem vp_nin_c {i : Int32} {n : Nat} (hn : n < 2 ^ 31) (h : i < 0 ∨ nI n ≤ i) : ¬ vp_in i n := by
  rw [vp_in_iff]
  rw [i32_lt, i32_le, nI_toInt hn] at h
  have : (0 : Int32).toInt = 0 := rfl
  omega
/-- at(row, place) -/
def ati (n : Nat) (f : Nat → Int32) (i : Int32) : Int32 := if 0 ≤ i.toInt ∧ i.toInt < n then f i.toNatClampNeg else -6
def sti (n : Nat) (f : Nat → Int32) (i v : Int32) : Nat → Int32 := if 0 ≤ i.toInt ∧ i.toInt < n then upd f i.toNatClampNeg v else f
theorem ati_in {n : Nat} {f : Nat → Int32} {i : Int32} (h : vp_in i n) : ati n f i = f i.toNatClampNeg := if_pos (vp_in_iff.mp h)
theorem ati_out {n : Nat} {f : Nat → Int32} {i : Int32} (h : ¬ vp_in i n) : ati n f i = -6 := if_neg (fun z => h (vp_in_iff.mpr z))
theorem ati_n {n : Nat} {f : Nat → Int32} {k : Nat} (h : k < n) (hn : n < 2 ^ 31) : ati n f (nI k) = f k := by rw [ati_in (vp_in_nI h hn), nI_clamp (Nat.lt_trans h hn)]
theorem sti_in {n : Nat} {f : Nat → Int32} {i v : Int32} (h : vp_in i n) : sti n f i v = upd f i.toNatClampNeg v := if_pos (vp_in_iff.mp h)
theorem sti_out {n : Nat} {f : Nat → Int32} {i v : Int32} (h : ¬ vp_in i n) : sti n f i v = f := if_neg (fun z => h (vp_in_iff.mpr z))
theorem sti_n {n : Nat} {f : Nat → Int32} {k : Nat} {v : Int32} (h : k < n) (hn : n < 2 ^ 31) : sti n f (nI k) v = upd f k v := by rw [sti_in (vp_in_nI h hn), nI_clamp (Nat.lt_trans h hn)]
theorem up_id {w : jW} {z : Nat} {c : va_E} (h : w z = c) : va_up w z c = w := by
  funext p
  by_cases hp : p = z
  · subst hp; simp [va_up, h]
  · simp [va_up, hp]
theorem up_up (w : jW) (z : Nat) (c c' : va_E) : va_up (va_up w z c) z c' = va_up w z c' := by
  funext p
  by_cases hp : p = z <;> simp [va_up, hp]
theorem up_at (w : jW) (z : Nat) (c : va_E) : va_up w z c z = c := by simp [va_up]
theorem up_ne (w : jW) {z p : Nat} (c : va_E) (h : p ≠ z) : va_up w z c p = w p := by simp [va_up, h]
-- cards
def suit (k : Nat) : Nat := k % 52 / 13
def rank (k : Nat) : Nat := k % 13
def red (k : Nat) : Bool := decide (26 ≤ k % 52)
def ov (o : Option Nat) : Int32 := match o with
  | none => -6
  | some k => nI k
def oC (o : Option Nat) : Prop := ∀ t, o = some t → t < 104
def fA (k : Nat) (o : Option Nat) : Bool := match o with
  | none => rank k == 0
  | some t => suit k == suit t && rank k == rank t + 1
def fH (k : Nat) (o : Option Nat) : Bool := match o with
  | none => true
  | some t => (red k != red t) && rank k + 1 == rank t
def fW (k : Nat) (o : Option Nat) : Bool := match o with
  | none => false
  | some t => suit k == suit t && (rank k == rank t + 1 || rank k + 1 == rank t)
theorem suit_lt (k : Nat) : suit k < 4 := by unfold suit; omega
theorem rank_lt (k : Nat) : rank k < 13 := by unfold rank; omega
theorem nI_eqS {a b : Nat} (ha : a < 1000000) (hb : b < 1000000) : nI a = nI b ↔ a = b := nI_eq (by omega) (by omega)
theorem suitI_eq (k t : Nat) : nI (suit k) = nI (suit t) ↔ suit k = suit t := nI_eqS (by have := suit_lt k; omega) (by have := suit_lt t; omega)
theorem rankI_0 (k : Nat) : nI (rank k) = 0 ↔ rank k = 0 := nI_eqS (b := 0) (by have := rank_lt k; omega) (by omega)
theorem rankI_s (k t : Nat) : nI (rank k) = nI (rank t) + 1 ↔ rank k = rank t + 1 := by
  rw [nI_1]; exact nI_eqS (by have := rank_lt k; omega) (by have := rank_lt t; omega)
theorem rankI_p (k t : Nat) : nI (rank k) = nI (rank t) - 1 ↔ rank k + 1 = rank t := by
  rw [← nI_eqS (a := rank k + 1) (b := rank t) (by have := rank_lt k; omega) (by have := rank_lt t; omega), ← nI_1]
  constructor
  · intro h; rw [h]; simp
  · intro h; rw [← h]; simp
theorem ov_ne {k : Nat} (h : k < 104) : ¬ nI k = -6 := by
  intro e
  have h1 := congrArg Int32.toInt e
  rw [nI_toInt (by omega)] at h1
  have : (-6 : Int32).toInt = -6 := by decide
  omega
theorem ov_n (o : Option Nat) (h : oC o) : ov o = -6 ↔ o = none := by
  cases o with
  | none => simp [ov]
  | some t => simp [ov, ov_ne (h t rfl)]
theorem suit_i {k : Nat} (h : k < 104) : (nI k - nI k / 52 * 52) / 13 = nI (suit k) := by
  rw [show (52 : Int32) = nI 52 from rfl, show (13 : Int32) = nI 13 from rfl, pk_rem (by omega) (by decide) (by decide), pk_div (by omega) (by decide) (by decide)]
  rfl
theorem rank_i {k : Nat} (h : k < 104) : nI k - nI k / 13 * 13 = nI (rank k) := by
  rw [show (13 : Int32) = nI 13 from rfl, pk_rem (by omega) (by decide) (by decide)]
  rfl
theorem mod52_i {k : Nat} (h : k < 104) : nI k - nI k / 52 * 52 = nI (k % 52) := by
  rw [show (52 : Int32) = nI 52 from rfl, pk_rem (by omega) (by decide) (by decide)]
theorem nI_leS {a b : Nat} (ha : a < 1000000) (hb : b < 1000000) : nI a ≤ nI b ↔ a ≤ b := nI_leI (by omega) (by omega)
theorem nI_ltS {a b : Nat} (ha : a < 1000000) (hb : b < 1000000) : nI a < nI b ↔ a < b := nI_ltI (by omega) (by omega)
theorem i_ltL {a n : Nat} (ha : a < 1000000) (hn : (OfNat.ofNat n : Nat) < 1000000) : nI a < (no_index (OfNat.ofNat n)) ↔ a < (OfNat.ofNat n : Nat) := nI_ltS ha hn
theorem i_Llt {a n : Nat} (ha : a < 1000000) (hn : (OfNat.ofNat n : Nat) < 1000000) : (no_index (OfNat.ofNat n)) < nI a ↔ (OfNat.ofNat n : Nat) < a := nI_ltS hn ha
theorem i_leL {a n : Nat} (ha : a < 1000000) (hn : (OfNat.ofNat n : Nat) < 1000000) : nI a ≤ (no_index (OfNat.ofNat n)) ↔ a ≤ (OfNat.ofNat n : Nat) := nI_leS ha hn
theorem i_Lle {a n : Nat} (ha : a < 1000000) (hn : (OfNat.ofNat n : Nat) < 1000000) : (no_index (OfNat.ofNat n)) ≤ nI a ↔ (OfNat.ofNat n : Nat) ≤ a := nI_leS hn ha
theorem i_eqL {a n : Nat} (ha : a < 1000000) (hn : (OfNat.ofNat n : Nat) < 1000000) : nI a = (no_index (OfNat.ofNat n)) ↔ a = (OfNat.ofNat n : Nat) := nI_eqS ha hn
theorem i_Leq {a n : Nat} (ha : a < 1000000) (hn : (OfNat.ofNat n : Nat) < 1000000) : (no_index (OfNat.ofNat n)) = nI a ↔ (OfNat.ofNat n : Nat) = a := nI_eqS hn ha
theorem i_addL (a n : Nat) : nI a + (no_index (OfNat.ofNat n)) = nI (a + (OfNat.ofNat n : Nat)) := nI_add a n
theorem i_Ladd (a n : Nat) : (no_index (OfNat.ofNat n)) + nI a = nI ((OfNat.ofNat n : Nat) + a) := nI_add n a
theorem nI_sub {a b : Nat} (h : b ≤ a) : nI a - nI b = nI (a - b) := by
  have e : nI a = nI (a - b) + nI b := by rw [nI_add, Nat.sub_add_cancel h]
  rw [e, Int32.add_sub_cancel]
theorem i_subL {a n : Nat} (h : (OfNat.ofNat n : Nat) ≤ a) : nI a - (no_index (OfNat.ofNat n)) = nI (a - (OfNat.ofNat n : Nat)) := nI_sub h
theorem i_Lsub {a n : Nat} (h : a ≤ (OfNat.ofNat n : Nat)) : (no_index (OfNat.ofNat n)) - nI a = nI ((OfNat.ofNat n : Nat) - a) := nI_sub h
theorem nI_mul (a b : Nat) : nI a * nI b = nI (a * b) := (Int32.ofNat_mul a b).symm
theorem i_mulL (a n : Nat) : nI a * (no_index (OfNat.ofNat n)) = nI (a * (OfNat.ofNat n : Nat)) := nI_mul a n
theorem i_Lmul (a n : Nat) : (no_index (OfNat.ofNat n)) * nI a = nI ((OfNat.ofNat n : Nat) * a) := nI_mul n a
