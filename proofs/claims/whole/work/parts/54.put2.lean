/-- the signs of a long: how many, whether all are good, what is left -/
def sgG : Nat → Nat → Nat × Bool × Nat
  | 0, U => (0, true, U)
  | k + 1, U => if U % 256 = 0 then (0, true, U) else ((sgG k (U / 256)).1 + 1, (decide (33 ≤ U % 256 ∧ U % 256 ≤ 126) && (sgG k (U / 256)).2.1), (sgG k (U / 256)).2.2)
theorem sg_0 {k U : Nat} (h : U % 256 = 0) : sgG k U = (0, true, U) := by
  cases k with
  | zero => rfl
  | succ k => exact if_pos h
theorem sg_s {k U : Nat} (h : ¬ U % 256 = 0) : sgG (k + 1) U = ((sgG k (U / 256)).1 + 1, (decide (33 ≤ U % 256 ∧ U % 256 ≤ 126) && (sgG k (U / 256)).2.1), (sgG k (U / 256)).2.2) := if_neg h
theorem sg_le : ∀ k U, (sgG k U).1 ≤ k
  | 0, _ => Nat.le_refl _
  | k + 1, U => by
    by_cases h : U % 256 = 0
    · rw [sg_0 h]; exact Nat.zero_le _
    · rw [sg_s h]; have := sg_le k (U / 256); show (sgG k (U / 256)).1 + 1 ≤ k + 1; omega
theorem sg_ok : ∀ k U, (sgG k U).2.1 = true → ∀ i, i < (sgG k U).1 → 33 ≤ U / 256 ^ i % 256 ∧ U / 256 ^ i % 256 ≤ 126
  | 0, _, _, i, hi => absurd hi (Nat.not_lt_zero _)
  | k + 1, U, h, i, hi => by
    by_cases z : U % 256 = 0
    · rw [sg_0 z] at hi; exact absurd hi (Nat.not_lt_zero _)
    · rw [sg_s z] at hi h
      have hi2 : i < (sgG k (U / 256)).1 + 1 := hi
      have h2 : (decide (33 ≤ U % 256 ∧ U % 256 ≤ 126) && (sgG k (U / 256)).2.1) = true := h
      rw [Bool.and_eq_true, decide_eq_true_eq] at h2
      cases i with
      | zero => rw [Nat.pow_zero, Nat.div_one]; exact h2.1
      | succ i =>
        have q := sg_ok k (U / 256) h2.2 i (by omega)
        rw [Nat.div_div_eq_div_mul, show 256 * 256 ^ i = 256 ^ (i + 1) by rw [Nat.pow_succ, Nat.mul_comm]] at q
        exact q
theorem by_ne (r : Int64) : lg_cmp (r &&& 255) 0 = 0 ↔ r.toUInt64.toNat % 256 = 0 := by
  rw [put_and, lg_cmp_eq]
  exact lN_eq (by omega) (by decide) (b := 0)
theorem by_lt (r : Int64) : lg_cmp (r &&& 255) 33 < 0 ↔ r.toUInt64.toNat % 256 < 33 := by
  rw [put_and, lg_cmp_lt]
  exact lN_lt (by omega) (by decide) (b := 33)
theorem by_le (r : Int64) : lg_cmp (r &&& 255) 126 ≤ 0 ↔ r.toUInt64.toNat % 256 ≤ 126 := by
  rw [put_and, lg_cmp_le]
  exact lN_le (by omega) (by decide) (b := 126)
theorem by_z (r : Int64) : lg_cmp r 0 = 0 ↔ r.toUInt64.toNat = 0 := by rw [lg_cmp_eq, put_0]
def sgI (a : Nat × Bool × Nat) (n : Nat) : Int32 := if a.2.1 = true ∧ a.2.2 = 0 then nI (n + a.1) else -2

set_option maxRecDepth 100000 in
set_option maxHeartbeats 4000000 in
theorem lp_signs (g : jG) (w : jW) {K : jK} (h : jH g K RX0 cX0_signsIn 7 (some (.int))) (x : Int64) : ∀ k n r, n + k = 8 → J g 0 K 7 (fun v w' => ∃ x, v = some (Value.int x) ∧ (fun x w' => x = sgI (sgG k r.toUInt64.toNat) n ∧ w' = w) x w') 5 [(4, .int (nI n)), (2, .long r), (0, .long x)] [] w := by
  intro k
  induction k with
  | zero =>
    intro n r hn
    have hn8 : n = 8 := by omega
    subst hn8
    refine j_iload h (q := 7) 0 dX0_signsIn_5 rfl rfl ?_
    refine j_bipush h (q := 9) (8) dX0_signsIn_7 rfl (by decide) ?_
    refine j_icmp_ge h (tgt := 61) (q := 12) dX0_signsIn_9 rfl (by decide) (fun c_9 => ?_) (fun c_9 => ?_)
    rotate_left
    · exact absurd (show (8 : Int32) ≤ nI 8 by decide) c_9
    refine j_lload_n h (q := 62) 1 dX0_signsIn_61 rfl rfl ?_
    refine j_lconst h (q := 63) 0 dX0_signsIn_62 rfl (by decide) ?_
    refine j_lcmp h (q := 64) dX0_signsIn_63 rfl ?_
    refine j_if_ne h (tgt := 72) (q := 67) dX0_signsIn_64 rfl (by decide) (fun c_64 => ?_) (fun c_64 => ?_)
    · rw [by_z] at c_64
      refine j_bipush h (q := 74) (-2) dX0_signsIn_72 rfl (by decide) ?_
      refine j_iret h rfl dX0_signsIn_74 ?_
      refine ⟨_, rfl, ?_, rfl⟩
      rw [show sgG 0 r.toUInt64.toNat = (0, true, r.toUInt64.toNat) from rfl]
      unfold sgI
      rw [if_neg (fun z => c_64 z.2)]
    · rw [by_z] at c_64
      refine j_iload h (q := 69) 0 dX0_signsIn_67 rfl rfl ?_
      refine j_goto h (tgt := 74) dX0_signsIn_69 (by decide) ?_
      refine j_iret h rfl dX0_signsIn_74 ?_
      refine ⟨_, rfl, ?_, rfl⟩
      rw [show sgG 0 r.toUInt64.toNat = (0, true, r.toUInt64.toNat) from rfl]
      unfold sgI
      rw [if_pos ⟨rfl, c_64⟩]; rfl
  | succ k ih =>
    intro n r hn
    refine j_iload h (q := 7) 0 dX0_signsIn_5 rfl rfl ?_
    refine j_bipush h (q := 9) (8) dX0_signsIn_7 rfl (by decide) ?_
    refine j_icmp_ge h (tgt := 61) (q := 12) dX0_signsIn_9 rfl (by decide) (fun c_9 => ?_) (fun c_9 => ?_)
    · exact absurd c_9 (by rw [i_Lle (by omega) (by omega)]; omega)
    refine j_lload_n h (q := 13) 1 dX0_signsIn_12 rfl rfl ?_
    refine j_ldc2 h (q := 16) mK_X0_19 dX0_signsIn_13 rfl ?_
    refine j_land h (q := 17) dX0_signsIn_16 rfl ?_
    refine j_lconst h (q := 18) 0 dX0_signsIn_17 rfl (by decide) ?_
    refine j_lcmp h (q := 19) dX0_signsIn_18 rfl ?_
    refine j_if_eq h (tgt := 61) (q := 22) dX0_signsIn_19 rfl (by decide) (fun c_19 => ?_) (fun c_19 => ?_)
    · rw [by_ne] at c_19
      refine j_lload_n h (q := 62) 1 dX0_signsIn_61 rfl rfl ?_
      refine j_lconst h (q := 63) 0 dX0_signsIn_62 rfl (by decide) ?_
      refine j_lcmp h (q := 64) dX0_signsIn_63 rfl ?_
      refine j_if_ne h (tgt := 72) (q := 67) dX0_signsIn_64 rfl (by decide) (fun c_64 => ?_) (fun c_64 => ?_)
      · rw [by_z] at c_64
        refine j_bipush h (q := 74) (-2) dX0_signsIn_72 rfl (by decide) ?_
        refine j_iret h rfl dX0_signsIn_74 ?_
        refine ⟨_, rfl, ?_, rfl⟩
        rw [sg_0 c_19]
        unfold sgI
        rw [if_neg (fun z => c_64 z.2)]
      · rw [by_z] at c_64
        refine j_iload h (q := 69) 0 dX0_signsIn_67 rfl rfl ?_
        refine j_goto h (tgt := 74) dX0_signsIn_69 (by decide) ?_
        refine j_iret h rfl dX0_signsIn_74 ?_
        refine ⟨_, rfl, ?_, rfl⟩
        rw [sg_0 c_19]
        unfold sgI
        rw [if_pos ⟨rfl, c_64⟩]; rfl
    · rw [by_ne] at c_19
      refine j_lload_n h (q := 23) 1 dX0_signsIn_22 rfl rfl ?_
      refine j_ldc2 h (q := 26) mK_X0_19 dX0_signsIn_23 rfl ?_
      refine j_land h (q := 27) dX0_signsIn_26 rfl ?_
      refine j_lstore h (q := 29) (loc' := [(5, _), (4, _), (2, _), (0, _)]) dX0_signsIn_27 rfl (by decide) rfl ?_
      refine j_lload h (q := 31) 0 dX0_signsIn_29 rfl rfl ?_
      refine j_ldc2 h (q := 34) mK_X0_21 dX0_signsIn_31 rfl ?_
      refine j_lcmp h (q := 35) dX0_signsIn_34 rfl ?_
      refine j_if_lt h (tgt := 47) (q := 38) dX0_signsIn_35 rfl (by decide) (fun c_35 => ?_) (fun c_35 => ?_)
      · rw [by_lt] at c_35
        refine j_bipush h (q := 49) (-2) dX0_signsIn_47 rfl (by decide) ?_
        refine j_iret h rfl dX0_signsIn_49 ?_
        refine ⟨_, rfl, ?_, rfl⟩
        rw [sg_s c_19]
        unfold sgI
        rw [if_neg (fun z => by have z1 := z.1; simp only [Bool.and_eq_true, decide_eq_true_eq] at z1; omega)]
      · rw [by_lt] at c_35
        refine j_lload h (q := 40) 0 dX0_signsIn_38 rfl rfl ?_
        refine j_ldc2 h (q := 43) mK_X0_23 dX0_signsIn_40 rfl ?_
        refine j_lcmp h (q := 44) dX0_signsIn_43 rfl ?_
        refine j_if_le h (tgt := 50) (q := 47) dX0_signsIn_44 rfl (by decide) (fun c_44 => ?_) (fun c_44 => ?_)
        · rw [by_le] at c_44
          refine j_iinc h (q := 53) (loc' := [(4, _), (5, _), (2, _), (0, _)]) 1 _ dX0_signsIn_50 rfl rfl rfl (by decide) rfl ?_
          refine j_lload_n h (q := 54) 2 dX0_signsIn_53 rfl rfl ?_
          refine j_bipush h (q := 56) (8) dX0_signsIn_54 rfl (by decide) ?_
          refine j_lushr h (q := 57) dX0_signsIn_56 rfl ?_
          refine j_lstore_n h (q := 58) (loc' := [(2, _), (4, _), (5, _), (0, _)]) dX0_signsIn_57 rfl (by decide) rfl ?_
          refine j_goto h (tgt := 5) dX0_signsIn_58 (by decide) ?_
          rw [show nI n + Int32.ofInt 1 = nI (n + 1) from nI_1 n]
          refine j_sub [1, 0, 3] rfl ?_
          have es : ((r.toUInt64 >>> ((8 : Int32).toInt64.toUInt64 &&& Int64.toUInt64 63)).toInt64).toUInt64.toNat = r.toUInt64.toNat / 256 := put_sh r (k := 8) (by decide)
          have eI : sgI (sgG (k + 1) r.toUInt64.toNat) n = sgI (sgG k (r.toUInt64.toNat / 256)) (n + 1) := by
            rw [sg_s c_19, show decide (33 ≤ r.toUInt64.toNat % 256 ∧ r.toUInt64.toNat % 256 ≤ 126) = true from decide_eq_true (by omega), Bool.true_and]
            unfold sgI
            rw [show n + ((sgG k (r.toUInt64.toNat / 256)).1 + 1) = n + 1 + (sgG k (r.toUInt64.toNat / 256)).1 by omega]
          rw [eI, ← es]
          exact ih (n + 1) _ (by omega)
        · rw [by_le] at c_44
          refine j_bipush h (q := 49) (-2) dX0_signsIn_47 rfl (by decide) ?_
          refine j_iret h rfl dX0_signsIn_49 ?_
          refine ⟨_, rfl, ?_, rfl⟩
          rw [sg_s c_19]
          unfold sgI
          rw [if_neg (fun z => by have z1 := z.1; simp only [Bool.and_eq_true, decide_eq_true_eq] at z1; omega)]

set_option maxRecDepth 100000 in
set_option maxHeartbeats 4000000 in
theorem p_signsIn (g : jG) (w : jW) (x : Int64)  : ConI g 0 yX0_signsIn cX0_signsIn 7 (some (.int)) [.long x] (w) (fun y w' => y = sgI (sgG 8 x.toUInt64.toNat) 0 ∧ w' = w) := by
  refine con_of (by decide +kernel) (Nat.le_of_ble_eq_true rfl) [(0, _)] rfl (fun K h => ?_)
  refine j_lload_n h (q := 1) 0 dX0_signsIn_0 rfl rfl ?_
  refine j_lstore_n h (q := 2) (loc' := [(2, _), (0, _)]) dX0_signsIn_1 rfl (by decide) rfl ?_
  refine j_iconst h (q := 3) (0) dX0_signsIn_2 rfl (by decide) ?_
  refine j_istore h (q := 5) (loc' := [(4, _), (2, _), (0, _)]) dX0_signsIn_3 rfl (by decide) rfl ?_
  refine j_sub [0, 1, 2] rfl ?_
  exact lp_signs g w h x 8 0 x rfl
