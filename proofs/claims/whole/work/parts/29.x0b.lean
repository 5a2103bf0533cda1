set_option maxRecDepth 100000 in
set_option maxHeartbeats 4000000 in
theorem lp_fault (g : jG) (w : jW) (X : Xs) {L : Nat} {ch : Nat → Nat} (P : PD X L ch) {K : jK} (h : jH g K RX0 cX0_firstFault 4 (some (.int))) (r : Option Nat) : ∀ n j i, j + n = L + 1 → j ≤ i → i ≤ L → ffG L ch n i = r → J g 5 K 4 (fun v w' => ∃ x, v = some (.int x) ∧ (x = ov r ∧ w' = xw g w X)) 4 [(2, .int (nI j)), (1, .int (nI i)), (0, .ref (gr g 5))] [] (xw g w X) := by
  have hL := P.2.1
  intro n
  induction n with
  | zero => intro j i h1 h2 h3 _; omega
  | succ n ih =>
    intro j i h1 h2 h3 hff
    have hrb := rs_b L ch i
    unfold ffG at hff
    cases hr1 : (rsG L ch i).1
    · refine j_iload_n h (q := 5) 0 dX0_firstFault_4 rfl rfl ?_
      refine j_aload_n h (q := 6) 2 dX0_firstFault_5 rfl rfl ?_
      refine j_get h (q := 9) inX0 (C := RX0) (T := TX0) (N := 2) (ci := 0) rfl 1 (by decide) mF_X0_15 (by decide) (xw_5 _ _ _) rfl dX0_firstFault_6 rfl ?_
      rw [show Xln X = nI L from P.1]
      refine j_icmp_gt h (tgt := 59) (q := 12) dX0_firstFault_9 rfl (by decide) (fun c_9 => ?_) (fun c_9 => ?_)
      · exact absurd c_9 (by rw [nI_ltS (by omega) (by omega)]; omega)
      refine j_aload_n h (q := 13) 2 dX0_firstFault_12 rfl rfl ?_
      refine j_iload_n h (q := 14) 1 dX0_firstFault_13 rfl rfl ?_
      refine j_cV h (q := 17) (C := RX0) (T := TX0) (N := 2) (ci := 0) mo_X0_readStep mI_X0_readStep mV_X0_readStep mL_X0_33 (p_readStep g _ _ P (i := i) rfl (by omega)) (by decide) (by decide) (xw_5 _ _ _) rfl rfl rfl (Nat.le_of_ble_eq_true rfl) dX0_firstFault_14 rfl ?_
      rintro _ w14 ⟨x14, rfl, e⟩
      obtain ⟨rfl, rfl⟩ := e
      rw [rsI_f hr1]
      refine j_istore_n h (q := 18) (loc' := [(3, _), (2, _), (1, _), (0, _)]) dX0_firstFault_17 rfl (by decide) rfl ?_
      refine j_iload_n h (q := 19) 0 dX0_firstFault_18 rfl rfl ?_
      refine j_if_ge h (tgt := 26) (q := 22) dX0_firstFault_19 rfl (by decide) (fun c_19 => ?_) (fun c_19 => ?_)
      · exact absurd c_19 (neg_1 (by omega))
      · refine j_iconst h (q := 23) (-1) dX0_firstFault_22 rfl (by decide) ?_
        refine j_iload_n h (q := 24) 0 dX0_firstFault_23 rfl rfl ?_
        refine j_isub h (q := 25) dX0_firstFault_24 rfl ?_
        refine j_iret h rfl dX0_firstFault_25 ?_
        rw [if_pos hr1] at hff
        exact ⟨_, rfl, (neg_n _).trans (by rw [← hff]; rfl), rfl⟩
    · refine j_iload_n h (q := 5) 0 dX0_firstFault_4 rfl rfl ?_
      refine j_aload_n h (q := 6) 2 dX0_firstFault_5 rfl rfl ?_
      refine j_get h (q := 9) inX0 (C := RX0) (T := TX0) (N := 2) (ci := 0) rfl 1 (by decide) mF_X0_15 (by decide) (xw_5 _ _ _) rfl dX0_firstFault_6 rfl ?_
      rw [show Xln X = nI L from P.1]
      refine j_icmp_gt h (tgt := 59) (q := 12) dX0_firstFault_9 rfl (by decide) (fun c_9 => ?_) (fun c_9 => ?_)
      · exact absurd c_9 (by rw [nI_ltS (by omega) (by omega)]; omega)
      refine j_aload_n h (q := 13) 2 dX0_firstFault_12 rfl rfl ?_
      refine j_iload_n h (q := 14) 1 dX0_firstFault_13 rfl rfl ?_
      refine j_cV h (q := 17) (C := RX0) (T := TX0) (N := 2) (ci := 0) mo_X0_readStep mI_X0_readStep mV_X0_readStep mL_X0_33 (p_readStep g _ _ P (i := i) rfl (by omega)) (by decide) (by decide) (xw_5 _ _ _) rfl rfl rfl (Nat.le_of_ble_eq_true rfl) dX0_firstFault_14 rfl ?_
      rintro _ w14 ⟨x14, rfl, e⟩
      obtain ⟨rfl, rfl⟩ := e
      rw [rsI_t hr1]
      refine j_istore_n h (q := 18) (loc' := [(3, _), (2, _), (1, _), (0, _)]) dX0_firstFault_17 rfl (by decide) rfl ?_
      refine j_iload_n h (q := 19) 0 dX0_firstFault_18 rfl rfl ?_
      refine j_if_ge h (tgt := 26) (q := 22) dX0_firstFault_19 rfl (by decide) (fun c_19 => ?_) (fun c_19 => ?_)
      · refine j_iload_n h (q := 27) 0 dX0_firstFault_26 rfl rfl ?_
        refine j_aload_n h (q := 28) 3 dX0_firstFault_27 rfl rfl ?_
        refine j_get h (q := 31) inX0 (C := RX0) (T := TX0) (N := 2) (ci := 0) rfl 1 (by decide) mF_X0_15 (by decide) (xw_5 _ _ _) rfl dX0_firstFault_28 rfl ?_
        rw [show Xln X = nI L from P.1]
        refine j_icmp_ne h (tgt := 37) (q := 34) dX0_firstFault_31 rfl (by decide) (fun c_31 => ?_) (fun c_31 => ?_)
        · rw [nI_eqS (by omega) (by omega)] at c_31
          refine j_aload_n h (q := 38) 3 dX0_firstFault_37 rfl rfl ?_
          refine j_iload_n h (q := 39) 0 dX0_firstFault_38 rfl rfl ?_
          refine j_cV h (q := 42) (C := RX0) (T := TX0) (N := 2) (ci := 0) mo_X0_signAt mI_X0_signAt mV_X0_signAt mL_X0_37 (p_signAt g _ _ P (i := (rsG L ch i).2) rfl (by omega)) (by decide) (by decide) (xw_5 _ _ _) rfl rfl rfl (Nat.le_of_ble_eq_true rfl) dX0_firstFault_39 rfl ?_
          rintro _ w39 ⟨x39, rfl, e⟩
          obtain ⟨rfl, rfl⟩ := e
          have hb := tx_b P (rsG L ch i).2
          refine j_bipush h (q := 44) (44) dX0_firstFault_42 rfl (by decide) ?_
          refine j_icmp_eq h (tgt := 49) (q := 47) dX0_firstFault_44 rfl (by decide) (fun c_44 => ?_) (fun c_44 => ?_)
          · rw [i_eqL (by omega) (by decide)] at c_44
            refine j_iload_n h (q := 50) 0 dX0_firstFault_49 rfl rfl ?_
            refine j_iconst h (q := 51) (1) dX0_firstFault_50 rfl (by decide) ?_
            refine j_iadd h (q := 52) dX0_firstFault_51 rfl ?_
            refine j_istore_n h (q := 53) (loc' := [(1, _), (3, _), (2, _), (0, _)]) dX0_firstFault_52 rfl (by decide) rfl ?_
            refine j_iinc h (q := 56) (loc' := [(2, _), (1, _), (3, _), (0, _)]) 2 _ dX0_firstFault_53 rfl rfl rfl (by decide) rfl ?_
            refine j_goto h (tgt := 4) dX0_firstFault_56 (by decide) ?_
            rw [nI_1, show nI j + Int32.ofInt 1 = nI (j + 1) from nI_1 j]
            refine j_sub [0, 1, 3] rfl ?_
            have hlt := tx_lt (L := L) (ch := ch) (i := (rsG L ch i).2) (by rw [c_44]; decide)
            rw [if_neg (by rw [hr1]; decide), if_neg c_31, if_neg (fun z => z c_44)] at hff
            exact ih (j + 1) ((rsG L ch i).2 + 1) (by omega) (by have := rs_gt hr1; omega) (by omega) hff
          · rw [i_eqL (by omega) (by decide)] at c_44
            refine j_iload_n h (q := 48) 0 dX0_firstFault_47 rfl rfl ?_
            refine j_iret h rfl dX0_firstFault_48 ?_
            rw [if_neg (by rw [hr1]; decide), if_neg c_31, if_pos c_44] at hff
            exact ⟨_, rfl, by rw [← hff]; rfl, rfl⟩
        · rw [nI_eqS (by omega) (by omega)] at c_31
          refine j_bipush h (q := 36) (-6) dX0_firstFault_34 rfl (by decide) ?_
          refine j_iret h rfl dX0_firstFault_36 ?_
          rw [if_neg (by rw [hr1]; decide), if_pos c_31] at hff
          exact ⟨_, rfl, by rw [← hff]; rfl, rfl⟩
      · exact absurd (nI_pos' (by omega)) c_19

set_option maxRecDepth 100000 in
set_option maxHeartbeats 4000000 in
theorem p_firstFault (g : jG) (w : jW) (X : Xs) {L : Nat} {ch : Nat → Nat} (P : PD X L ch)  : ConI g 5 yX0_firstFault cX0_firstFault 4 (some (.int)) [.ref (gr g 5)] (xw g w X) (fun x w' => x = ov (faultG L ch) ∧ w' = xw g w X) := by
  refine con_of (by decide +kernel) (Nat.le_of_ble_eq_true rfl) [(0, _)] rfl (fun K h => ?_)
  refine j_iconst h (q := 1) (0) dX0_firstFault_0 rfl (by decide) ?_
  refine j_istore_n h (q := 2) (loc' := [(1, _), (0, _)]) dX0_firstFault_1 rfl (by decide) rfl ?_
  refine j_iconst h (q := 3) (0) dX0_firstFault_2 rfl (by decide) ?_
  refine j_istore_n h (q := 4) (loc' := [(2, _), (1, _), (0, _)]) dX0_firstFault_3 rfl (by decide) rfl ?_
  refine lp_fault g w X P h (faultG L ch) (L + 1) 0 0 (Nat.zero_add _) (Nat.le_refl _) (Nat.zero_le _) rfl

set_option maxRecDepth 100000 in
set_option maxHeartbeats 4000000 in
theorem lp_next (g : jG) (w : jW) (X : Xs) {L : Nat} {ch : Nat → Nat} (P : PD X L ch) {K : jK} (h : jH g K RX0 cX0_nextStep 3 (some (.int))) {i s : Nat} (his : i ≤ s) (hsL : s ≤ L) (hnc : ∀ j, i ≤ j → j < s → tx L ch j ≠ 44) (he : s = L ∨ tx L ch s = 44) : ∀ n j, j + n = s → i ≤ j → J g 2 K 3 (fun v w' => ∃ x, v = some (.int x) ∧ (x = nI (s + 1) ∧ w' = xw g w X)) 2 [(2, .int (nI j)), (0, .ref (gr g 5)), (1, .int (nI i))] [] (xw g w X) := by
  have hL := P.2.1
  intro n
  induction n with
  | zero =>
    intro j hj hij
    have hjN : s = j := by omega
    subst hjN
    refine j_iload_n h (q := 3) 0 dX0_nextStep_2 rfl rfl ?_
    refine j_aload_n h (q := 4) 1 dX0_nextStep_3 rfl rfl ?_
    refine j_get h (q := 7) inX0 (C := RX0) (T := TX0) (N := 2) (ci := 0) rfl 1 (by decide) mF_X0_15 (by decide) (xw_5 _ _ _) rfl dX0_nextStep_4 rfl ?_
    rw [show Xln X = nI L from P.1]
    refine j_icmp_ge h (tgt := 26) (q := 10) dX0_nextStep_7 rfl (by decide) (fun c_7 => ?_) (fun c_7 => ?_)
    · rw [nI_leS (by omega) (by omega)] at c_7
      refine j_iload_n h (q := 27) 0 dX0_nextStep_26 rfl rfl ?_
      refine j_iconst h (q := 28) (1) dX0_nextStep_27 rfl (by decide) ?_
      refine j_iadd h (q := 29) dX0_nextStep_28 rfl ?_
      refine j_iret h rfl dX0_nextStep_29 ?_
      exact ⟨_, rfl, nI_1 s, rfl⟩
    · rw [nI_leS (by omega) (by omega)] at c_7
      refine j_aload_n h (q := 11) 1 dX0_nextStep_10 rfl rfl ?_
      refine j_iload_n h (q := 12) 0 dX0_nextStep_11 rfl rfl ?_
      refine j_cV h (q := 15) (C := RX0) (T := TX0) (N := 2) (ci := 0) mo_X0_signAt mI_X0_signAt mV_X0_signAt mL_X0_37 (p_signAt g _ _ P (i := s) rfl (by omega)) (by decide) (by decide) (xw_5 _ _ _) rfl rfl rfl (Nat.le_of_ble_eq_true rfl) dX0_nextStep_12 rfl ?_
      rintro _ w12 ⟨x12, rfl, e⟩
      obtain ⟨rfl, rfl⟩ := e
      have hb := tx_b P s
      refine j_bipush h (q := 17) (44) dX0_nextStep_15 rfl (by decide) ?_
      refine j_icmp_eq h (tgt := 26) (q := 20) dX0_nextStep_17 rfl (by decide) (fun c_17 => ?_) (fun c_17 => ?_)
      · rw [i_eqL (by omega) (by decide)] at c_17
        refine j_iload_n h (q := 27) 0 dX0_nextStep_26 rfl rfl ?_
        refine j_iconst h (q := 28) (1) dX0_nextStep_27 rfl (by decide) ?_
        refine j_iadd h (q := 29) dX0_nextStep_28 rfl ?_
        refine j_iret h rfl dX0_nextStep_29 ?_
        exact ⟨_, rfl, nI_1 s, rfl⟩
      · rw [i_eqL (by omega) (by decide)] at c_17
        exact he.elim (fun z => absurd z (by omega)) (fun z => absurd z c_17)
  | succ n ih =>
    intro j hj hij
    refine j_iload_n h (q := 3) 0 dX0_nextStep_2 rfl rfl ?_
    refine j_aload_n h (q := 4) 1 dX0_nextStep_3 rfl rfl ?_
    refine j_get h (q := 7) inX0 (C := RX0) (T := TX0) (N := 2) (ci := 0) rfl 1 (by decide) mF_X0_15 (by decide) (xw_5 _ _ _) rfl dX0_nextStep_4 rfl ?_
    rw [show Xln X = nI L from P.1]
    refine j_icmp_ge h (tgt := 26) (q := 10) dX0_nextStep_7 rfl (by decide) (fun c_7 => ?_) (fun c_7 => ?_)
    · exact absurd c_7 (by rw [nI_leS (by omega) (by omega)]; omega)
    refine j_aload_n h (q := 11) 1 dX0_nextStep_10 rfl rfl ?_
    refine j_iload_n h (q := 12) 0 dX0_nextStep_11 rfl rfl ?_
    refine j_cV h (q := 15) (C := RX0) (T := TX0) (N := 2) (ci := 0) mo_X0_signAt mI_X0_signAt mV_X0_signAt mL_X0_37 (p_signAt g _ _ P (i := j) rfl (by omega)) (by decide) (by decide) (xw_5 _ _ _) rfl rfl rfl (Nat.le_of_ble_eq_true rfl) dX0_nextStep_12 rfl ?_
    rintro _ w12 ⟨x12, rfl, e⟩
    obtain ⟨rfl, rfl⟩ := e
    have hb := tx_b P j
    refine j_bipush h (q := 17) (44) dX0_nextStep_15 rfl (by decide) ?_
    refine j_icmp_eq h (tgt := 26) (q := 20) dX0_nextStep_17 rfl (by decide) (fun c_17 => ?_) (fun c_17 => ?_)
    · rw [i_eqL (by omega) (by decide)] at c_17
      exact absurd c_17 (hnc j hij (by omega))
    · refine j_iinc h (q := 23) (loc' := [(2, _), (0, _), (1, _)]) 0 _ dX0_nextStep_20 rfl rfl rfl (by decide) rfl ?_
      refine j_goto h (tgt := 2) dX0_nextStep_23 (by decide) ?_
      rw [show nI j + Int32.ofInt 1 = nI (j + 1) from nI_1 j]
      exact ih (j + 1) (by omega) (by omega)

set_option maxRecDepth 100000 in
set_option maxHeartbeats 4000000 in
theorem p_nextStep (g : jG) (w : jW) (X : Xs) {L : Nat} {ch : Nat → Nat} (P : PD X L ch) {i s : Nat} (his : i ≤ s) (hsL : s ≤ L) (hnc : ∀ j, i ≤ j → j < s → tx L ch j ≠ 44) (he : s = L ∨ tx L ch s = 44)  : ConI g 2 yX0_nextStep cX0_nextStep 3 (some (.int)) [.ref (gr g 5), .int (nI i)] (xw g w X) (fun x w' => x = nI (s + 1) ∧ w' = xw g w X) := by
  refine con_of (by decide +kernel) (Nat.le_of_ble_eq_true rfl) [(0, _), (1, _)] rfl (fun K h => ?_)
  refine j_iload_n h (q := 1) 1 dX0_nextStep_0 rfl rfl ?_
  refine j_istore_n h (q := 2) (loc' := [(2, _), (0, _), (1, _)]) dX0_nextStep_1 rfl (by decide) rfl ?_
  exact lp_next g w X P h his hsL hnc he (s - i) i (by omega) (Nat.le_refl _)

set_option maxRecDepth 100000 in
set_option maxHeartbeats 4000000 in
theorem p_clear (g : jG) (w : jW) (X : Xs)  : ConV g 0 yX0_clear cX0_clear 1 none [.ref (gr g 5)] (xw g w X) (fun w' => w' = xw g w (yLn X 0)) := by
  refine con_of (by decide +kernel) (Nat.le_of_ble_eq_true rfl) [(0, _)] rfl (fun K h => ?_)
  refine j_aload_n h (q := 1) 0 dX0_clear_0 rfl rfl ?_
  refine j_iconst h (q := 2) (0) dX0_clear_1 rfl (by decide) ?_
  refine j_put h (q := 5) inX0 (C := RX0) (T := TX0) (N := 2) (ci := 0) rfl tyX0_ok nmX0 1 (by decide) mF_X0_15 rfl rfl rfl (by first | rfl | decide) (by decide) (xw_5 _ _ _) (Nat.le_of_ble_eq_true rfl) dX0_clear_2 rfl ?_
  refine j_stk rfl xw_u5 ?_
  refine j_vret h rfl dX0_clear_5 ?_
  exact ⟨rfl, rfl⟩
