set_option maxRecDepth 100000 in
set_option maxHeartbeats 4000000 in
theorem p_signAt (g : jG) (w : jW) (X : Xs) {L : Nat} {ch : Nat → Nat} (P : PD X L ch) {a : Int32} {i : Nat} (ha : a = nI i) (hi : i < 1000)  : ConI g 1 yX0_signAt cX0_signAt 2 (some (.int)) [.ref (gr g 5), .int a] (xw g w X) (fun x w' => x = nI (tx L ch i) ∧ w' = xw g w X) := by
  refine con_of (by decide +kernel) (Nat.le_of_ble_eq_true rfl) [(0, _), (1, _)] rfl (fun K h => ?_)
  subst ha
  refine j_iload_n h (q := 1) 1 dX0_signAt_0 rfl rfl ?_
  refine j_aload_n h (q := 2) 0 dX0_signAt_1 rfl rfl ?_
  refine j_get h (q := 5) inX0 (C := RX0) (T := TX0) (N := 2) (ci := 0) rfl 1 (by decide) mF_X0_15 (by decide) (xw_5 _ _ _) rfl dX0_signAt_2 rfl ?_
  have hL := P.2.1
  rw [show Xln X = nI L from P.1]
  refine j_icmp_ge h (tgt := 19) (q := 8) dX0_signAt_5 rfl (by decide) (fun c_5 => ?_) (fun c_5 => ?_)
  · rw [nI_leS (by omega) (by omega)] at c_5
    refine j_iconst h (q := 20) (0) dX0_signAt_19 rfl (by decide) ?_
    refine j_iret h rfl dX0_signAt_20 ?_
    unfold tx
    first | exact ⟨_, rfl, by rw [if_pos (by omega)], rfl⟩ | exact ⟨_, rfl, by rw [if_neg (by omega)]; rfl, rfl⟩
  · rw [nI_leS (by omega) (by omega)] at c_5
    refine j_aload_n h (q := 9) 0 dX0_signAt_8 rfl rfl ?_
    refine j_get h (q := 12) inX0 (C := RX0) (T := TX0) (N := 2) (ci := 0) rfl 0 (by decide) mF_X0_9 (by decide) (xw_5 _ _ _) rfl dX0_signAt_9 rfl ?_
    refine j_iload_n h (q := 13) 1 dX0_signAt_12 rfl rfl ?_
    refine j_cSN h (q := 16) mo_X2_at mS_X2_at mL_X0_29 (c_X2_at g _ (z := 6) (n := 60) (f := Xsg X) (by decide) (xw_6 _ _ _) (by decide) _) (by decide) rfl rfl (Nat.le_of_ble_eq_true rfl) dX0_signAt_13 rfl ?_
    rintro _ w13 ⟨x13, rfl, e⟩
    obtain ⟨rfl, rfl⟩ := e
    rw [ati_n (by omega) (by decide), P.2.2.1 i (by omega)]
    refine j_goto h (tgt := 20) dX0_signAt_16 (by decide) ?_
    refine j_iret h rfl dX0_signAt_20 ?_
    unfold tx
    first | exact ⟨_, rfl, by rw [if_pos (by omega)], rfl⟩ | exact ⟨_, rfl, by rw [if_neg (by omega)]; rfl, rfl⟩

set_option maxRecDepth 100000 in
set_option maxHeartbeats 4000000 in
theorem p_isDigit (g : jG) (w : jW) (X : Xs) {L : Nat} {ch : Nat → Nat} (P : PD X L ch) {a : Int32} {i : Nat} (ha : a = nI i) (hi : i < 990)  : ConI g 2 yX0_isDigit cX0_isDigit 2 (some (.boolean)) [.ref (gr g 5), .int a] (xw g w X) (fun x w' => x = b2i (tdig L ch i) ∧ w' = xw g w X) := by
  refine con_of (by decide +kernel) (Nat.le_of_ble_eq_true rfl) [(0, _), (1, _)] rfl (fun K h => ?_)
  subst ha
  refine j_aload_n h (q := 1) 0 dX0_isDigit_0 rfl rfl ?_
  refine j_iload_n h (q := 2) 1 dX0_isDigit_1 rfl rfl ?_
  refine j_cV h (q := 5) (C := RX0) (T := TX0) (N := 2) (ci := 0) mo_X0_signAt mI_X0_signAt mV_X0_signAt mL_X0_37 (p_signAt g _ _ P (i := i) rfl (by omega)) (by decide) (by decide) (xw_5 _ _ _) rfl rfl rfl (Nat.le_of_ble_eq_true rfl) dX0_isDigit_2 rfl ?_
  rintro _ w2 ⟨x2, rfl, e⟩
  obtain ⟨rfl, rfl⟩ := e
  refine j_bipush h (q := 7) (48) dX0_isDigit_5 rfl (by decide) ?_
  have hb0 := tx_b P i
  have hb1 := tx_b P (i + 1)
  refine j_icmp_lt h (tgt := 24) (q := 10) dX0_isDigit_7 rfl (by decide) (fun c_7 => ?_) (fun c_7 => ?_)
  · refine j_iconst h (q := 25) (0) dX0_isDigit_24 rfl (by decide) ?_
    refine j_zret h rfl (by first | rfl | exact b2i_n _) dX0_isDigit_25 ?_
    simp (disch := omega) only [nI_add, i_addL, i_Ladd, i_subL, i_Lsub, nI_ltS, nI_leS, nI_eqS, i_ltL, i_Llt, i_leL, i_Lle, i_eqL, i_Leq, b2i_0, Bool.not_eq_false] at c_7
    unfold tdig
    first | exact ⟨_, rfl, b2i_dt (by omega), rfl⟩ | exact ⟨_, rfl, b2i_df (by omega), rfl⟩
  · refine j_aload_n h (q := 11) 0 dX0_isDigit_10 rfl rfl ?_
    refine j_iload_n h (q := 12) 1 dX0_isDigit_11 rfl rfl ?_
    refine j_cV h (q := 15) (C := RX0) (T := TX0) (N := 2) (ci := 0) mo_X0_signAt mI_X0_signAt mV_X0_signAt mL_X0_37 (p_signAt g _ _ P (i := i) rfl (by omega)) (by decide) (by decide) (xw_5 _ _ _) rfl rfl rfl (Nat.le_of_ble_eq_true rfl) dX0_isDigit_12 rfl ?_
    rintro _ w12 ⟨x12, rfl, e⟩
    obtain ⟨rfl, rfl⟩ := e
    refine j_bipush h (q := 17) (57) dX0_isDigit_15 rfl (by decide) ?_
    refine j_icmp_gt h (tgt := 24) (q := 20) dX0_isDigit_17 rfl (by decide) (fun c_17 => ?_) (fun c_17 => ?_)
    · refine j_iconst h (q := 25) (0) dX0_isDigit_24 rfl (by decide) ?_
      refine j_zret h rfl (by first | rfl | exact b2i_n _) dX0_isDigit_25 ?_
      simp (disch := omega) only [nI_add, i_addL, i_Ladd, i_subL, i_Lsub, nI_ltS, nI_leS, nI_eqS, i_ltL, i_Llt, i_leL, i_Lle, i_eqL, i_Leq, b2i_0, Bool.not_eq_false] at c_7 c_17
      unfold tdig
      first | exact ⟨_, rfl, b2i_dt (by omega), rfl⟩ | exact ⟨_, rfl, b2i_df (by omega), rfl⟩
    · refine j_iconst h (q := 21) (1) dX0_isDigit_20 rfl (by decide) ?_
      refine j_goto h (tgt := 25) dX0_isDigit_21 (by decide) ?_
      refine j_zret h rfl (by first | rfl | exact b2i_n _) dX0_isDigit_25 ?_
      simp (disch := omega) only [nI_add, i_addL, i_Ladd, i_subL, i_Lsub, nI_ltS, nI_leS, nI_eqS, i_ltL, i_Llt, i_leL, i_Lle, i_eqL, i_Leq, b2i_0, Bool.not_eq_false] at c_7 c_17
      unfold tdig
      first | exact ⟨_, rfl, b2i_dt (by omega), rfl⟩ | exact ⟨_, rfl, b2i_df (by omega), rfl⟩

set_option maxRecDepth 100000 in
set_option maxHeartbeats 4000000 in
theorem p_twoDigits (g : jG) (w : jW) (X : Xs) {L : Nat} {ch : Nat → Nat} (P : PD X L ch) {a : Int32} {i : Nat} (ha : a = nI i) (hi : i < 980) (hd : tdig L ch i = true) (hd1 : tdig L ch (i + 1) = true)  : ConI g 2 yX0_twoDigits cX0_twoDigits 2 (some (.int)) [.ref (gr g 5), .int a] (xw g w X) (fun x w' => x = nI (ttwo L ch i) ∧ w' = xw g w X) := by
  refine con_of (by decide +kernel) (Nat.le_of_ble_eq_true rfl) [(0, _), (1, _)] rfl (fun K h => ?_)
  subst ha
  refine j_bipush h (q := 2) (10) dX0_twoDigits_0 rfl (by decide) ?_
  refine j_aload_n h (q := 3) 0 dX0_twoDigits_2 rfl rfl ?_
  refine j_iload_n h (q := 4) 1 dX0_twoDigits_3 rfl rfl ?_
  refine j_cV h (q := 7) (C := RX0) (T := TX0) (N := 2) (ci := 0) mo_X0_signAt mI_X0_signAt mV_X0_signAt mL_X0_37 (p_signAt g _ _ P (i := i) rfl (by omega)) (by decide) (by decide) (xw_5 _ _ _) rfl rfl rfl (Nat.le_of_ble_eq_true rfl) dX0_twoDigits_4 rfl ?_
  rintro _ w4 ⟨x4, rfl, e⟩
  obtain ⟨rfl, rfl⟩ := e
  refine j_bipush h (q := 9) (48) dX0_twoDigits_7 rfl (by decide) ?_
  refine j_isub h (q := 10) dX0_twoDigits_9 rfl ?_
  refine j_imul h (q := 11) dX0_twoDigits_10 rfl ?_
  refine j_aload_n h (q := 12) 0 dX0_twoDigits_11 rfl rfl ?_
  refine j_iload_n h (q := 13) 1 dX0_twoDigits_12 rfl rfl ?_
  refine j_iconst h (q := 14) (1) dX0_twoDigits_13 rfl (by decide) ?_
  refine j_iadd h (q := 15) dX0_twoDigits_14 rfl ?_
  refine j_cV h (q := 18) (C := RX0) (T := TX0) (N := 2) (ci := 0) mo_X0_signAt mI_X0_signAt mV_X0_signAt mL_X0_37 (p_signAt g _ _ P (i := (i + 1)) (i_addL i 1) (by omega)) (by decide) (by decide) (xw_5 _ _ _) rfl rfl rfl (Nat.le_of_ble_eq_true rfl) dX0_twoDigits_15 rfl ?_
  rintro _ w15 ⟨x15, rfl, e⟩
  obtain ⟨rfl, rfl⟩ := e
  refine j_iadd h (q := 19) dX0_twoDigits_18 rfl ?_
  refine j_bipush h (q := 21) (48) dX0_twoDigits_19 rfl (by decide) ?_
  refine j_isub h (q := 22) dX0_twoDigits_21 rfl ?_
  refine j_iret h rfl dX0_twoDigits_22 ?_
  have d0 := tdig_e.mp hd
  have d1 := tdig_e.mp hd1
  refine ⟨_, rfl, ?_, rfl⟩
  rw [i_subL (by omega), i_Lmul, nI_add, i_subL (by omega)]
  unfold ttwo
  congr 1
  omega

set_option maxRecDepth 100000 in
set_option maxHeartbeats 4000000 in
theorem p_pileEnd (g : jG) (w : jW) (X : Xs) {L : Nat} {ch : Nat → Nat} (P : PD X L ch) {a : Int32} {i : Nat} (ha : a = nI i) (hi : i < 970)  : ConI g 3 yX0_pileEnd cX0_pileEnd 3 (some (.int)) [.ref (gr g 5), .int a] (xw g w X) (fun x w' => x = nI (tend L ch i) ∧ w' = xw g w X) := by
  refine con_of (by decide +kernel) (Nat.le_of_ble_eq_true rfl) [(0, _), (1, _)] rfl (fun K h => ?_)
  subst ha
  refine j_aload_n h (q := 1) 0 dX0_pileEnd_0 rfl rfl ?_
  refine j_iload_n h (q := 2) 1 dX0_pileEnd_1 rfl rfl ?_
  refine j_cV h (q := 5) (C := RX0) (T := TX0) (N := 2) (ci := 0) mo_X0_isDigit mI_X0_isDigit mV_X0_isDigit mL_X0_43 (p_isDigit g _ _ P (i := i) rfl (by omega)) (by decide) (by decide) (xw_5 _ _ _) rfl rfl rfl (Nat.le_of_ble_eq_true rfl) dX0_pileEnd_2 rfl ?_
  rintro _ w2 ⟨x2, rfl, e⟩
  obtain ⟨rfl, rfl⟩ := e
  refine j_if_ne h (tgt := 10) (q := 8) dX0_pileEnd_5 rfl (by decide) (fun c_5 => ?_) (fun c_5 => ?_)
  · simp (disch := omega) only [nI_add, i_addL, i_Ladd, i_subL, i_Lsub, nI_ltS, nI_leS, nI_eqS, i_ltL, i_Llt, i_leL, i_Lle, i_eqL, i_Leq, b2i_0, Bool.not_eq_false] at c_5
    refine j_aload_n h (q := 11) 0 dX0_pileEnd_10 rfl rfl ?_
    refine j_iload_n h (q := 12) 1 dX0_pileEnd_11 rfl rfl ?_
    refine j_iconst h (q := 13) (1) dX0_pileEnd_12 rfl (by decide) ?_
    refine j_iadd h (q := 14) dX0_pileEnd_13 rfl ?_
    refine j_cV h (q := 17) (C := RX0) (T := TX0) (N := 2) (ci := 0) mo_X0_isDigit mI_X0_isDigit mV_X0_isDigit mL_X0_43 (p_isDigit g _ _ P (i := i + 1) (i_addL i 1) (by omega)) (by decide) (by decide) (xw_5 _ _ _) rfl rfl rfl (Nat.le_of_ble_eq_true rfl) dX0_pileEnd_14 rfl ?_
    rintro _ w14 ⟨x14, rfl, e⟩
    obtain ⟨rfl, rfl⟩ := e
    refine j_if_eq h (tgt := 45) (q := 20) dX0_pileEnd_17 rfl (by decide) (fun c_17 => ?_) (fun c_17 => ?_)
    · simp (disch := omega) only [nI_add, i_addL, i_Ladd, i_subL, i_Lsub, nI_ltS, nI_leS, nI_eqS, i_ltL, i_Llt, i_leL, i_Lle, i_eqL, i_Leq, b2i_0, Bool.not_eq_false] at c_17
      refine j_iconst h (q := 46) (0) dX0_pileEnd_45 rfl (by decide) ?_
      refine j_istore_n h (q := 47) (loc' := [(2, _), (0, _), (1, _)]) dX0_pileEnd_46 rfl (by decide) rfl ?_
      refine j_iload_n h (q := 48) 0 dX0_pileEnd_47 rfl rfl ?_
      refine j_if_eq h (tgt := 57) (q := 51) dX0_pileEnd_48 rfl (by decide) (fun c_48 => ?_) (fun c_48 => ?_)
      rotate_left
      · exact absurd rfl c_48
      refine j_iload_n h (q := 58) 2 dX0_pileEnd_57 rfl rfl ?_
      refine j_iconst h (q := 59) (1) dX0_pileEnd_58 rfl (by decide) ?_
      refine j_iadd h (q := 60) dX0_pileEnd_59 rfl ?_
      refine j_iret h rfl dX0_pileEnd_60 ?_
      unfold tend tbig
      first
        | exact ⟨_, rfl, by rw [c_5]; rfl, rfl⟩
        | exact ⟨_, rfl, by rw [c_5, c_17]; exact i_addL i 1, rfl⟩
        | exact ⟨_, rfl, by rw [c_5, c_17, decide_eq_false (by rw [i_ltL (by omega) (by decide)] at c_27; omega)]; exact i_addL i 1, rfl⟩
        | exact ⟨_, rfl, by
            rw [c_5, c_17, decide_eq_true (show 10 ≤ ttwo L ch i by rw [i_ltL (by omega) (by decide)] at c_27; omega)]
            rw [b2i_0, decide_eq_false_iff_not] at c_38
            simp (disch := omega) only [i_ltL] at c_38
            rw [decide_eq_false (show ¬ ttwo L ch i < 22 by omega)]
            exact i_addL i 1, rfl⟩
        | exact ⟨_, rfl, by
            rw [c_5, c_17, decide_eq_true (show 10 ≤ ttwo L ch i by rw [i_ltL (by omega) (by decide)] at c_27; omega)]
            rw [b2i_1, decide_eq_true_eq] at c_38
            simp (disch := omega) only [i_ltL] at c_38
            rw [decide_eq_true (show ttwo L ch i < 22 by omega)]
            exact i_addL i 2, rfl⟩
    · simp (disch := omega) only [nI_add, i_addL, i_Ladd, i_subL, i_Lsub, nI_ltS, nI_leS, nI_eqS, i_ltL, i_Llt, i_leL, i_Lle, i_eqL, i_Leq, b2i_0, Bool.not_eq_false] at c_17
      refine j_aload_n h (q := 21) 0 dX0_pileEnd_20 rfl rfl ?_
      refine j_iload_n h (q := 22) 1 dX0_pileEnd_21 rfl rfl ?_
      refine j_cV h (q := 25) (C := RX0) (T := TX0) (N := 2) (ci := 0) mo_X0_twoDigits mI_X0_twoDigits mV_X0_twoDigits mL_X0_47 (p_twoDigits g _ _ P (i := i) rfl (by omega) c_5 c_17) (by decide) (by decide) (xw_5 _ _ _) rfl rfl rfl (Nat.le_of_ble_eq_true rfl) dX0_pileEnd_22 rfl ?_
      rintro _ w22 ⟨x22, rfl, e⟩
      obtain ⟨rfl, rfl⟩ := e
      have h2 : ttwo L ch i ≤ 99 := by have d0 := tdig_e.mp c_5; have d1 := tdig_e.mp c_17; unfold ttwo; omega
      refine j_bipush h (q := 27) (10) dX0_pileEnd_25 rfl (by decide) ?_
      refine j_icmp_lt h (tgt := 45) (q := 30) dX0_pileEnd_27 rfl (by decide) (fun c_27 => ?_) (fun c_27 => ?_)
      · refine j_iconst h (q := 46) (0) dX0_pileEnd_45 rfl (by decide) ?_
        refine j_istore_n h (q := 47) (loc' := [(2, _), (0, _), (1, _)]) dX0_pileEnd_46 rfl (by decide) rfl ?_
        refine j_iload_n h (q := 48) 0 dX0_pileEnd_47 rfl rfl ?_
        refine j_if_eq h (tgt := 57) (q := 51) dX0_pileEnd_48 rfl (by decide) (fun c_48 => ?_) (fun c_48 => ?_)
        rotate_left
        · exact absurd rfl c_48
        refine j_iload_n h (q := 58) 2 dX0_pileEnd_57 rfl rfl ?_
        refine j_iconst h (q := 59) (1) dX0_pileEnd_58 rfl (by decide) ?_
        refine j_iadd h (q := 60) dX0_pileEnd_59 rfl ?_
        refine j_iret h rfl dX0_pileEnd_60 ?_
        unfold tend tbig
        first
          | exact ⟨_, rfl, by rw [c_5]; rfl, rfl⟩
          | exact ⟨_, rfl, by rw [c_5, c_17]; exact i_addL i 1, rfl⟩
          | exact ⟨_, rfl, by rw [c_5, c_17, decide_eq_false (by rw [i_ltL (by omega) (by decide)] at c_27; omega)]; exact i_addL i 1, rfl⟩
          | exact ⟨_, rfl, by
              rw [c_5, c_17, decide_eq_true (show 10 ≤ ttwo L ch i by rw [i_ltL (by omega) (by decide)] at c_27; omega)]
              rw [b2i_0, decide_eq_false_iff_not] at c_38
              simp (disch := omega) only [i_ltL] at c_38
              rw [decide_eq_false (show ¬ ttwo L ch i < 22 by omega)]
              exact i_addL i 1, rfl⟩
          | exact ⟨_, rfl, by
              rw [c_5, c_17, decide_eq_true (show 10 ≤ ttwo L ch i by rw [i_ltL (by omega) (by decide)] at c_27; omega)]
              rw [b2i_1, decide_eq_true_eq] at c_38
              simp (disch := omega) only [i_ltL] at c_38
              rw [decide_eq_true (show ttwo L ch i < 22 by omega)]
              exact i_addL i 2, rfl⟩
      · refine j_aload_n h (q := 31) 0 dX0_pileEnd_30 rfl rfl ?_
        refine j_iload_n h (q := 32) 1 dX0_pileEnd_31 rfl rfl ?_
        refine j_cV h (q := 35) (C := RX0) (T := TX0) (N := 2) (ci := 0) mo_X0_twoDigits mI_X0_twoDigits mV_X0_twoDigits mL_X0_47 (p_twoDigits g _ _ P (i := i) rfl (by omega) c_5 c_17) (by decide) (by decide) (xw_5 _ _ _) rfl rfl rfl (Nat.le_of_ble_eq_true rfl) dX0_pileEnd_32 rfl ?_
        rintro _ w32 ⟨x32, rfl, e⟩
        obtain ⟨rfl, rfl⟩ := e
        refine j_cSN h (q := 38) mo_X2_isPile mS_X2_isPile mL_X0_50 (c_X2_isPile g _ _) (by decide) rfl rfl (Nat.le_of_ble_eq_true rfl) dX0_pileEnd_35 rfl ?_
        rintro _ w35 ⟨x35, rfl, e⟩
        obtain ⟨rfl, rfl⟩ := e
        refine j_if_eq h (tgt := 45) (q := 41) dX0_pileEnd_38 rfl (by decide) (fun c_38 => ?_) (fun c_38 => ?_)
        · refine j_iconst h (q := 46) (0) dX0_pileEnd_45 rfl (by decide) ?_
          refine j_istore_n h (q := 47) (loc' := [(2, _), (0, _), (1, _)]) dX0_pileEnd_46 rfl (by decide) rfl ?_
          refine j_iload_n h (q := 48) 0 dX0_pileEnd_47 rfl rfl ?_
          refine j_if_eq h (tgt := 57) (q := 51) dX0_pileEnd_48 rfl (by decide) (fun c_48 => ?_) (fun c_48 => ?_)
          rotate_left
          · exact absurd rfl c_48
          refine j_iload_n h (q := 58) 2 dX0_pileEnd_57 rfl rfl ?_
          refine j_iconst h (q := 59) (1) dX0_pileEnd_58 rfl (by decide) ?_
          refine j_iadd h (q := 60) dX0_pileEnd_59 rfl ?_
          refine j_iret h rfl dX0_pileEnd_60 ?_
          unfold tend tbig
          first
            | exact ⟨_, rfl, by rw [c_5]; rfl, rfl⟩
            | exact ⟨_, rfl, by rw [c_5, c_17]; exact i_addL i 1, rfl⟩
            | exact ⟨_, rfl, by rw [c_5, c_17, decide_eq_false (by rw [i_ltL (by omega) (by decide)] at c_27; omega)]; exact i_addL i 1, rfl⟩
            | exact ⟨_, rfl, by
                rw [c_5, c_17, decide_eq_true (show 10 ≤ ttwo L ch i by rw [i_ltL (by omega) (by decide)] at c_27; omega)]
                rw [b2i_0, decide_eq_false_iff_not] at c_38
                simp (disch := omega) only [i_ltL] at c_38
                rw [decide_eq_false (show ¬ ttwo L ch i < 22 by omega)]
                exact i_addL i 1, rfl⟩
            | exact ⟨_, rfl, by
                rw [c_5, c_17, decide_eq_true (show 10 ≤ ttwo L ch i by rw [i_ltL (by omega) (by decide)] at c_27; omega)]
                rw [b2i_1, decide_eq_true_eq] at c_38
                simp (disch := omega) only [i_ltL] at c_38
                rw [decide_eq_true (show ttwo L ch i < 22 by omega)]
                exact i_addL i 2, rfl⟩
        · refine j_iconst h (q := 42) (1) dX0_pileEnd_41 rfl (by decide) ?_
          refine j_goto h (tgt := 46) dX0_pileEnd_42 (by decide) ?_
          refine j_istore_n h (q := 47) (loc' := [(2, _), (0, _), (1, _)]) dX0_pileEnd_46 rfl (by decide) rfl ?_
          refine j_iload_n h (q := 48) 0 dX0_pileEnd_47 rfl rfl ?_
          refine j_if_eq h (tgt := 57) (q := 51) dX0_pileEnd_48 rfl (by decide) (fun c_48 => ?_) (fun c_48 => ?_)
          · exact absurd c_48 (by decide)
          refine j_iload_n h (q := 52) 2 dX0_pileEnd_51 rfl rfl ?_
          refine j_iconst h (q := 53) (2) dX0_pileEnd_52 rfl (by decide) ?_
          refine j_iadd h (q := 54) dX0_pileEnd_53 rfl ?_
          refine j_goto h (tgt := 60) dX0_pileEnd_54 (by decide) ?_
          refine j_iret h rfl dX0_pileEnd_60 ?_
          unfold tend tbig
          first
            | exact ⟨_, rfl, by rw [c_5]; rfl, rfl⟩
            | exact ⟨_, rfl, by rw [c_5, c_17]; exact i_addL i 1, rfl⟩
            | exact ⟨_, rfl, by rw [c_5, c_17, decide_eq_false (by rw [i_ltL (by omega) (by decide)] at c_27; omega)]; exact i_addL i 1, rfl⟩
            | exact ⟨_, rfl, by
                rw [c_5, c_17, decide_eq_true (show 10 ≤ ttwo L ch i by rw [i_ltL (by omega) (by decide)] at c_27; omega)]
                rw [b2i_0, decide_eq_false_iff_not] at c_38
                simp (disch := omega) only [i_ltL] at c_38
                rw [decide_eq_false (show ¬ ttwo L ch i < 22 by omega)]
                exact i_addL i 1, rfl⟩
            | exact ⟨_, rfl, by
                rw [c_5, c_17, decide_eq_true (show 10 ≤ ttwo L ch i by rw [i_ltL (by omega) (by decide)] at c_27; omega)]
                rw [b2i_1, decide_eq_true_eq] at c_38
                simp (disch := omega) only [i_ltL] at c_38
                rw [decide_eq_true (show ttwo L ch i < 22 by omega)]
                exact i_addL i 2, rfl⟩
  · simp (disch := omega) only [nI_add, i_addL, i_Ladd, i_subL, i_Lsub, nI_ltS, nI_leS, nI_eqS, i_ltL, i_Llt, i_leL, i_Lle, i_eqL, i_Leq, b2i_0, Bool.not_eq_false] at c_5
    refine j_iload_n h (q := 9) 1 dX0_pileEnd_8 rfl rfl ?_
    refine j_iret h rfl dX0_pileEnd_9 ?_
    unfold tend tbig
    first
      | exact ⟨_, rfl, by rw [c_5]; rfl, rfl⟩
      | exact ⟨_, rfl, by rw [c_5, c_17]; exact i_addL i 1, rfl⟩
      | exact ⟨_, rfl, by rw [c_5, c_17, decide_eq_false (by rw [i_ltL (by omega) (by decide)] at c_27; omega)]; exact i_addL i 1, rfl⟩
      | exact ⟨_, rfl, by
          rw [c_5, c_17, decide_eq_true (show 10 ≤ ttwo L ch i by rw [i_ltL (by omega) (by decide)] at c_27; omega)]
          rw [b2i_0, decide_eq_false_iff_not] at c_38
          simp (disch := omega) only [i_ltL] at c_38
          rw [decide_eq_false (show ¬ ttwo L ch i < 22 by omega)]
          exact i_addL i 1, rfl⟩
      | exact ⟨_, rfl, by
          rw [c_5, c_17, decide_eq_true (show 10 ≤ ttwo L ch i by rw [i_ltL (by omega) (by decide)] at c_27; omega)]
          rw [b2i_1, decide_eq_true_eq] at c_38
          simp (disch := omega) only [i_ltL] at c_38
          rw [decide_eq_true (show ttwo L ch i < 22 by omega)]
          exact i_addL i 2, rfl⟩

set_option maxRecDepth 100000 in
set_option maxHeartbeats 4000000 in
theorem p_pileAt (g : jG) (w : jW) (X : Xs) {L : Nat} {ch : Nat → Nat} (P : PD X L ch) {a : Int32} {i : Nat} (ha : a = nI i) (hi : i < 960) (hd : tdig L ch i = true)  : ConI g 4 yX0_pileAt cX0_pileAt 2 (some (.int)) [.ref (gr g 5), .int a] (xw g w X) (fun x w' => x = nI (tval L ch i) ∧ w' = xw g w X) := by
  refine con_of (by decide +kernel) (Nat.le_of_ble_eq_true rfl) [(0, _), (1, _)] rfl (fun K h => ?_)
  subst ha
  refine j_aload_n h (q := 1) 0 dX0_pileAt_0 rfl rfl ?_
  refine j_iload_n h (q := 2) 1 dX0_pileAt_1 rfl rfl ?_
  refine j_cV h (q := 5) (C := RX0) (T := TX0) (N := 2) (ci := 0) mo_X0_pileEnd mI_X0_pileEnd mV_X0_pileEnd mL_X0_40 (p_pileEnd g _ _ P (i := i) rfl (by omega)) (by decide) (by decide) (xw_5 _ _ _) rfl rfl rfl (Nat.le_of_ble_eq_true rfl) dX0_pileAt_2 rfl ?_
  rintro _ w2 ⟨x2, rfl, e⟩
  obtain ⟨rfl, rfl⟩ := e
  have hg := tend_ge L ch i
  have d0 := tdig_e.mp hd
  have he : tend L ch i = bif tbig L ch i then i + 2 else i + 1 := by unfold tend; rw [hd]; rfl
  refine j_iload_n h (q := 6) 1 dX0_pileAt_5 rfl rfl ?_
  refine j_iconst h (q := 7) (2) dX0_pileAt_6 rfl (by decide) ?_
  refine j_iadd h (q := 8) dX0_pileAt_7 rfl ?_
  refine j_icmp_ne h (tgt := 19) (q := 11) dX0_pileAt_8 rfl (by decide) (fun c_8 => ?_) (fun c_8 => ?_)
  · rw [i_addL, nI_eqS (by omega) (by omega)] at c_8
    have hbb : tbig L ch i = false := by cases z : tbig L ch i; rfl; rw [z] at he; exact absurd he c_8
    refine j_aload_n h (q := 20) 0 dX0_pileAt_19 rfl rfl ?_
    refine j_iload_n h (q := 21) 1 dX0_pileAt_20 rfl rfl ?_
    refine j_cV h (q := 24) (C := RX0) (T := TX0) (N := 2) (ci := 0) mo_X0_signAt mI_X0_signAt mV_X0_signAt mL_X0_37 (p_signAt g _ _ P (i := i) rfl (by omega)) (by decide) (by decide) (xw_5 _ _ _) rfl rfl rfl (Nat.le_of_ble_eq_true rfl) dX0_pileAt_21 rfl ?_
    rintro _ w21 ⟨x21, rfl, e⟩
    obtain ⟨rfl, rfl⟩ := e
    refine j_bipush h (q := 26) (48) dX0_pileAt_24 rfl (by decide) ?_
    refine j_isub h (q := 27) dX0_pileAt_26 rfl ?_
    refine j_iret h rfl dX0_pileAt_27 ?_
    unfold tval
    rw [hbb]
    first | exact ⟨_, rfl, rfl, rfl⟩ | exact ⟨_, rfl, i_subL (by omega), rfl⟩
  · rw [i_addL, nI_eqS (by omega) (by omega)] at c_8
    have hbb : tbig L ch i = true := by cases z : tbig L ch i; rw [z] at he; exact absurd (he.symm.trans c_8) (by show ¬ i + 1 = i + 2; omega); rfl
    refine j_aload_n h (q := 12) 0 dX0_pileAt_11 rfl rfl ?_
    refine j_iload_n h (q := 13) 1 dX0_pileAt_12 rfl rfl ?_
    refine j_cV h (q := 16) (C := RX0) (T := TX0) (N := 2) (ci := 0) mo_X0_twoDigits mI_X0_twoDigits mV_X0_twoDigits mL_X0_47 (p_twoDigits g _ _ P (i := i) rfl (by omega) hd (by unfold tbig at hbb; simp only [Bool.and_eq_true] at hbb; exact hbb.1)) (by decide) (by decide) (xw_5 _ _ _) rfl rfl rfl (Nat.le_of_ble_eq_true rfl) dX0_pileAt_13 rfl ?_
    rintro _ w13 ⟨x13, rfl, e⟩
    obtain ⟨rfl, rfl⟩ := e
    refine j_goto h (tgt := 27) dX0_pileAt_16 (by decide) ?_
    refine j_iret h rfl dX0_pileAt_27 ?_
    unfold tval
    rw [hbb]
    first | exact ⟨_, rfl, rfl, rfl⟩ | exact ⟨_, rfl, i_subL (by omega), rfl⟩

set_option maxRecDepth 100000 in
set_option maxHeartbeats 4000000 in
theorem p_readStep (g : jG) (w : jW) (X : Xs) {L : Nat} {ch : Nat → Nat} (P : PD X L ch) {a : Int32} {i : Nat} (ha : a = nI i) (hi : i < 900)  : ConI g 4 yX0_readStep cX0_readStep 5 (some (.int)) [.ref (gr g 5), .int a] (xw g w X) (fun x w' => x = rsI (rsG L ch i) ∧ w' = xw g w X) := by
  refine con_of (by decide +kernel) (Nat.le_of_ble_eq_true rfl) [(0, _), (1, _)] rfl (fun K h => ?_)
  subst ha
  refine j_aload_n h (q := 1) 0 dX0_readStep_0 rfl rfl ?_
  refine j_iload_n h (q := 2) 1 dX0_readStep_1 rfl rfl ?_
  refine j_cV h (q := 5) (C := RX0) (T := TX0) (N := 2) (ci := 0) mo_X0_signAt mI_X0_signAt mV_X0_signAt mL_X0_37 (p_signAt g _ _ P (i := i) rfl (by omega)) (by decide) (by decide) (xw_5 _ _ _) rfl rfl rfl (Nat.le_of_ble_eq_true rfl) dX0_readStep_2 rfl ?_
  rintro _ w2 ⟨x2, rfl, e⟩
  obtain ⟨rfl, rfl⟩ := e
  have hb0 := tx_b P i
  have hb1 := tx_b P (i + 1)
  refine j_istore_n h (q := 6) (loc' := [(2, _), (0, _), (1, _)]) dX0_readStep_5 rfl (by decide) rfl ?_
  refine j_iload_n h (q := 7) 0 dX0_readStep_6 rfl rfl ?_
  refine j_bipush h (q := 9) (100) dX0_readStep_7 rfl (by decide) ?_
  refine j_icmp_ne h (tgt := 16) (q := 12) dX0_readStep_9 rfl (by decide) (fun c_9 => ?_) (fun c_9 => ?_)
  · simp (disch := omega) only [nI_add, i_addL, i_Ladd, i_subL, i_Lsub, nI_ltS, nI_leS, nI_eqS, i_ltL, i_Llt, i_leL, i_Lle, i_eqL, i_Leq, b2i_0, Bool.not_eq_false] at c_9
    refine j_iload_n h (q := 17) 0 dX0_readStep_16 rfl rfl ?_
    refine j_bipush h (q := 19) (102) dX0_readStep_17 rfl (by decide) ?_
    refine j_icmp_ne h (tgt := 57) (q := 22) dX0_readStep_19 rfl (by decide) (fun c_19 => ?_) (fun c_19 => ?_)
    · simp (disch := omega) only [nI_add, i_addL, i_Ladd, i_subL, i_Lsub, nI_ltS, nI_leS, nI_eqS, i_ltL, i_Llt, i_leL, i_Lle, i_eqL, i_Leq, b2i_0, Bool.not_eq_false] at c_19
      refine j_aload_n h (q := 58) 1 dX0_readStep_57 rfl rfl ?_
      refine j_iload_n h (q := 59) 2 dX0_readStep_58 rfl rfl ?_
      refine j_cV h (q := 62) (C := RX0) (T := TX0) (N := 2) (ci := 0) mo_X0_pileEnd mI_X0_pileEnd mV_X0_pileEnd mL_X0_40 (p_pileEnd g _ _ P (i := i) rfl (by omega)) (by decide) (by decide) (xw_5 _ _ _) rfl rfl rfl (Nat.le_of_ble_eq_true rfl) dX0_readStep_59 rfl ?_
      rintro _ w59 ⟨x59, rfl, e⟩
      obtain ⟨rfl, rfl⟩ := e
      have hg := tend_ge L ch i
      have hb2 := tx_b P (tend L ch i)
      refine j_istore_n h (q := 63) (loc' := [(3, _), (2, _), (0, _), (1, _)]) dX0_readStep_62 rfl (by decide) rfl ?_
      refine j_iload_n h (q := 64) 0 dX0_readStep_63 rfl rfl ?_
      refine j_iload_n h (q := 65) 3 dX0_readStep_64 rfl rfl ?_
      refine j_icmp_eq h (tgt := 78) (q := 68) dX0_readStep_65 rfl (by decide) (fun c_65 => ?_) (fun c_65 => ?_)
      · simp (disch := omega) only [nI_add, i_addL, i_Ladd, i_subL, i_Lsub, nI_ltS, nI_leS, nI_eqS, i_ltL, i_Llt, i_leL, i_Lle, i_eqL, i_Leq, b2i_0, Bool.not_eq_false] at c_65
        refine j_iconst h (q := 79) (-1) dX0_readStep_78 rfl (by decide) ?_
        refine j_iload_n h (q := 80) 0 dX0_readStep_79 rfl rfl ?_
        refine j_isub h (q := 81) dX0_readStep_80 rfl ?_
        refine j_iret h rfl dX0_readStep_81 ?_
        have hr : rsG L ch i = (false, tend L ch i) := by
          unfold rsG
          rw [if_neg c_9, if_neg c_19, if_pos (Or.inl c_65)]
        exact ⟨_, rfl, by rw [hr]; exact rfl, rfl⟩
      · simp (disch := omega) only [nI_add, i_addL, i_Ladd, i_subL, i_Lsub, nI_ltS, nI_leS, nI_eqS, i_ltL, i_Llt, i_leL, i_Lle, i_eqL, i_Leq, b2i_0, Bool.not_eq_false] at c_65
        refine j_aload_n h (q := 69) 2 dX0_readStep_68 rfl rfl ?_
        refine j_iload_n h (q := 70) 0 dX0_readStep_69 rfl rfl ?_
        refine j_cV h (q := 73) (C := RX0) (T := TX0) (N := 2) (ci := 0) mo_X0_signAt mI_X0_signAt mV_X0_signAt mL_X0_37 (p_signAt g _ _ P (i := tend L ch i) rfl (by omega)) (by decide) (by decide) (xw_5 _ _ _) rfl rfl rfl (Nat.le_of_ble_eq_true rfl) dX0_readStep_70 rfl ?_
        rintro _ w70 ⟨x70, rfl, e⟩
        obtain ⟨rfl, rfl⟩ := e
        refine j_bipush h (q := 75) (62) dX0_readStep_73 rfl (by decide) ?_
        refine j_icmp_eq h (tgt := 82) (q := 78) dX0_readStep_75 rfl (by decide) (fun c_75 => ?_) (fun c_75 => ?_)
        · simp (disch := omega) only [nI_add, i_addL, i_Ladd, i_subL, i_Lsub, nI_ltS, nI_leS, nI_eqS, i_ltL, i_Llt, i_leL, i_Lle, i_eqL, i_Leq, b2i_0, Bool.not_eq_false] at c_75
          refine j_aload_n h (q := 83) 2 dX0_readStep_82 rfl rfl ?_
          refine j_iload_n h (q := 84) 0 dX0_readStep_83 rfl rfl ?_
          refine j_iconst h (q := 85) (1) dX0_readStep_84 rfl (by decide) ?_
          refine j_iadd h (q := 86) dX0_readStep_85 rfl ?_
          refine j_cV h (q := 89) (C := RX0) (T := TX0) (N := 2) (ci := 0) mo_X0_pileEnd mI_X0_pileEnd mV_X0_pileEnd mL_X0_40 (p_pileEnd g _ _ P (i := tend L ch i + 1) (i_addL _ 1) (by omega)) (by decide) (by decide) (xw_5 _ _ _) rfl rfl rfl (Nat.le_of_ble_eq_true rfl) dX0_readStep_86 rfl ?_
          rintro _ w86 ⟨x86, rfl, e⟩
          obtain ⟨rfl, rfl⟩ := e
          have hg2 := tend_ge L ch (tend L ch i + 1)
          refine j_istore h (q := 91) (loc' := [(4, _), (3, _), (2, _), (0, _), (1, _)]) dX0_readStep_89 rfl (by decide) rfl ?_
          refine j_iload h (q := 93) 0 dX0_readStep_91 rfl rfl ?_
          refine j_iload_n h (q := 94) 1 dX0_readStep_93 rfl rfl ?_
          refine j_iconst h (q := 95) (1) dX0_readStep_94 rfl (by decide) ?_
          refine j_iadd h (q := 96) dX0_readStep_95 rfl ?_
          refine j_icmp_ne h (tgt := 106) (q := 99) dX0_readStep_96 rfl (by decide) (fun c_96 => ?_) (fun c_96 => ?_)
          · simp (disch := omega) only [nI_add, i_addL, i_Ladd, i_subL, i_Lsub, nI_ltS, nI_leS, nI_eqS, i_ltL, i_Llt, i_leL, i_Lle, i_eqL, i_Leq, b2i_0, Bool.not_eq_false] at c_96
            refine j_iload h (q := 108) 0 dX0_readStep_106 rfl rfl ?_
            refine j_iret h rfl dX0_readStep_108 ?_
            have hr : rsG L ch i = (true, tend L ch (tend L ch i + 1)) := by
              unfold rsG
              rw [if_neg c_9, if_neg c_19, if_neg (fun z => z.elim c_65 (fun y => y c_75)), if_neg c_96]
            exact ⟨_, rfl, by rw [hr]; exact rfl, rfl⟩
          · simp (disch := omega) only [nI_add, i_addL, i_Ladd, i_subL, i_Lsub, nI_ltS, nI_leS, nI_eqS, i_ltL, i_Llt, i_leL, i_Lle, i_eqL, i_Leq, b2i_0, Bool.not_eq_false] at c_96
            refine j_iconst h (q := 100) (-1) dX0_readStep_99 rfl (by decide) ?_
            refine j_iload h (q := 102) 0 dX0_readStep_100 rfl rfl ?_
            refine j_isub h (q := 103) dX0_readStep_102 rfl ?_
            refine j_goto h (tgt := 108) dX0_readStep_103 (by decide) ?_
            refine j_iret h rfl dX0_readStep_108 ?_
            have hr : rsG L ch i = (false, tend L ch i + 1) := by
              unfold rsG
              rw [if_neg c_9, if_neg c_19, if_neg (fun z => z.elim c_65 (fun y => y c_75)), if_pos c_96]
            exact ⟨_, rfl, by rw [hr]; exact (by rw [c_96]; rfl), rfl⟩
        · simp (disch := omega) only [nI_add, i_addL, i_Ladd, i_subL, i_Lsub, nI_ltS, nI_leS, nI_eqS, i_ltL, i_Llt, i_leL, i_Lle, i_eqL, i_Leq, b2i_0, Bool.not_eq_false] at c_75
          refine j_iconst h (q := 79) (-1) dX0_readStep_78 rfl (by decide) ?_
          refine j_iload_n h (q := 80) 0 dX0_readStep_79 rfl rfl ?_
          refine j_isub h (q := 81) dX0_readStep_80 rfl ?_
          refine j_iret h rfl dX0_readStep_81 ?_
          have hr : rsG L ch i = (false, tend L ch i) := by
            unfold rsG
            rw [if_neg c_9, if_neg c_19, if_pos (Or.inr c_75)]
          exact ⟨_, rfl, by rw [hr]; exact rfl, rfl⟩
    · simp (disch := omega) only [nI_add, i_addL, i_Ladd, i_subL, i_Lsub, nI_ltS, nI_leS, nI_eqS, i_ltL, i_Llt, i_leL, i_Lle, i_eqL, i_Leq, b2i_0, Bool.not_eq_false] at c_19
      refine j_aload_n h (q := 23) 1 dX0_readStep_22 rfl rfl ?_
      refine j_iload_n h (q := 24) 2 dX0_readStep_23 rfl rfl ?_
      refine j_iconst h (q := 25) (1) dX0_readStep_24 rfl (by decide) ?_
      refine j_iadd h (q := 26) dX0_readStep_25 rfl ?_
      refine j_cV h (q := 29) (C := RX0) (T := TX0) (N := 2) (ci := 0) mo_X0_signAt mI_X0_signAt mV_X0_signAt mL_X0_37 (p_signAt g _ _ P (i := (i + 1)) (i_addL i 1) (by omega)) (by decide) (by decide) (xw_5 _ _ _) rfl rfl rfl (Nat.le_of_ble_eq_true rfl) dX0_readStep_26 rfl ?_
      rintro _ w26 ⟨x26, rfl, e⟩
      obtain ⟨rfl, rfl⟩ := e
      refine j_bipush h (q := 31) (48) dX0_readStep_29 rfl (by decide) ?_
      refine j_icmp_lt h (tgt := 52) (q := 34) dX0_readStep_31 rfl (by decide) (fun c_31 => ?_) (fun c_31 => ?_)
      · simp (disch := omega) only [nI_add, i_addL, i_Ladd, i_subL, i_Lsub, nI_ltS, nI_leS, nI_eqS, i_ltL, i_Llt, i_leL, i_Lle, i_eqL, i_Leq, b2i_0, Bool.not_eq_false] at c_31
        refine j_bipush h (q := 54) (-2) dX0_readStep_52 rfl (by decide) ?_
        refine j_iload_n h (q := 55) 2 dX0_readStep_54 rfl rfl ?_
        refine j_isub h (q := 56) dX0_readStep_55 rfl ?_
        refine j_iret h rfl dX0_readStep_56 ?_
        have hr : rsG L ch i = (false, i + 1) := by
          unfold rsG
          rw [if_neg c_9, if_pos c_19, if_neg (by omega)]
        exact ⟨_, rfl, by rw [hr]; exact neg_2 i, rfl⟩
      · simp (disch := omega) only [nI_add, i_addL, i_Ladd, i_subL, i_Lsub, nI_ltS, nI_leS, nI_eqS, i_ltL, i_Llt, i_leL, i_Lle, i_eqL, i_Leq, b2i_0, Bool.not_eq_false] at c_31
        refine j_aload_n h (q := 35) 1 dX0_readStep_34 rfl rfl ?_
        refine j_iload_n h (q := 36) 2 dX0_readStep_35 rfl rfl ?_
        refine j_iconst h (q := 37) (1) dX0_readStep_36 rfl (by decide) ?_
        refine j_iadd h (q := 38) dX0_readStep_37 rfl ?_
        refine j_cV h (q := 41) (C := RX0) (T := TX0) (N := 2) (ci := 0) mo_X0_signAt mI_X0_signAt mV_X0_signAt mL_X0_37 (p_signAt g _ _ P (i := (i + 1)) (i_addL i 1) (by omega)) (by decide) (by decide) (xw_5 _ _ _) rfl rfl rfl (Nat.le_of_ble_eq_true rfl) dX0_readStep_38 rfl ?_
        rintro _ w38 ⟨x38, rfl, e⟩
        obtain ⟨rfl, rfl⟩ := e
        refine j_bipush h (q := 43) (55) dX0_readStep_41 rfl (by decide) ?_
        refine j_icmp_gt h (tgt := 52) (q := 46) dX0_readStep_43 rfl (by decide) (fun c_43 => ?_) (fun c_43 => ?_)
        · simp (disch := omega) only [nI_add, i_addL, i_Ladd, i_subL, i_Lsub, nI_ltS, nI_leS, nI_eqS, i_ltL, i_Llt, i_leL, i_Lle, i_eqL, i_Leq, b2i_0, Bool.not_eq_false] at c_43
          refine j_bipush h (q := 54) (-2) dX0_readStep_52 rfl (by decide) ?_
          refine j_iload_n h (q := 55) 2 dX0_readStep_54 rfl rfl ?_
          refine j_isub h (q := 56) dX0_readStep_55 rfl ?_
          refine j_iret h rfl dX0_readStep_56 ?_
          have hr : rsG L ch i = (false, i + 1) := by
            unfold rsG
            rw [if_neg c_9, if_pos c_19, if_neg (by omega)]
          exact ⟨_, rfl, by rw [hr]; exact neg_2 i, rfl⟩
        · simp (disch := omega) only [nI_add, i_addL, i_Ladd, i_subL, i_Lsub, nI_ltS, nI_leS, nI_eqS, i_ltL, i_Llt, i_leL, i_Lle, i_eqL, i_Leq, b2i_0, Bool.not_eq_false] at c_43
          refine j_iload_n h (q := 47) 2 dX0_readStep_46 rfl rfl ?_
          refine j_iconst h (q := 48) (2) dX0_readStep_47 rfl (by decide) ?_
          refine j_iadd h (q := 49) dX0_readStep_48 rfl ?_
          refine j_goto h (tgt := 56) dX0_readStep_49 (by decide) ?_
          refine j_iret h rfl dX0_readStep_56 ?_
          have hr : rsG L ch i = (true, i + 2) := by
            unfold rsG
            rw [if_neg c_9, if_pos c_19, if_pos ⟨by omega, by omega⟩]
          exact ⟨_, rfl, by rw [hr]; exact i_addL i 2, rfl⟩
  · simp (disch := omega) only [nI_add, i_addL, i_Ladd, i_subL, i_Lsub, nI_ltS, nI_leS, nI_eqS, i_ltL, i_Llt, i_leL, i_Lle, i_eqL, i_Leq, b2i_0, Bool.not_eq_false] at c_9
    refine j_iload_n h (q := 13) 2 dX0_readStep_12 rfl rfl ?_
    refine j_iconst h (q := 14) (1) dX0_readStep_13 rfl (by decide) ?_
    refine j_iadd h (q := 15) dX0_readStep_14 rfl ?_
    refine j_iret h rfl dX0_readStep_15 ?_
    have hr : rsG L ch i = (true, i + 1) := by
      unfold rsG
      rw [if_pos c_9]
    exact ⟨_, rfl, by rw [hr]; exact i_addL i 1, rfl⟩
