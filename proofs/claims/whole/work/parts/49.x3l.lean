set_option maxRecDepth 100000 in
set_option maxHeartbeats 4000000 in
theorem m_readsStep (g : jG) (w : jW) (M : Ms) {L : Nat} {ch : Nat → Nat} (P : MD M L ch) {i : Nat} (ha : Mat M = nI i) (hi : i ≤ 60)  : ConI g 4 yX3_readsStep cX3_readsStep 1 (some (.boolean)) [.ref (gr g 67)] (mw g w M) (fun x w' => x = b2i (rsG L ch i).1 ∧ ∃ fi se, w' = mw g w (rsM M (nI (rsG L ch i).2) (ctI L ch i) fi se) ∧ ((rsG L ch i).1 = true → tx L ch i ≠ 100 → (tx L ch i = 102 → fi = nI (tx L ch (i + 1) - 48)) ∧ (tx L ch i ≠ 102 → fi = nI (tval L ch i) ∧ se = nI (tval L ch (tend L ch i + 1))))) := by
  refine con_of (by decide +kernel) (Nat.le_of_ble_eq_true rfl) [(0, _)] rfl (fun K h => ?_)
  by_cases h100 : tx L ch i = 100
  · have hr : rsG L ch i = (true, i + 1) := if_pos h100
    refine j_aload_n h (q := 1) 0 dX3_readsStep_0 rfl rfl ?_
    refine j_aload_n h (q := 2) 0 dX3_readsStep_1 rfl rfl ?_
    refine j_aload_n h (q := 3) 0 dX3_readsStep_2 rfl rfl ?_
    refine j_get h (q := 6) inX3 (C := RX3) (T := TX3) (N := 17) (ci := 3) rfl 13 (by decide) mF_X3_171 (by decide) (mw_0 _ _ _) rfl dX3_readsStep_3 rfl ?_
    rw [ha]
    refine j_cV h (q := 9) (C := RX3) (T := TX3) (N := 17) (ci := 3) mo_X3_character mI_X3_character mV_X3_character mL_X3_174 (m_character g w M P (i := i) (by omega)) (by decide) (by decide) (mw_0 _ _ _) rfl rfl rfl (Nat.le_of_ble_eq_true rfl) dX3_readsStep_6 rfl ?_
    rintro _ w6 ⟨x6, rfl, e⟩
    obtain ⟨rfl, rfl⟩ := e
    refine j_put h (q := 12) inX3 (C := RX3) (T := TX3) (N := 17) (ci := 3) rfl tyX3_ok nmX3 14 (by decide) mF_X3_180 rfl rfl rfl (by first | rfl | decide) (by decide) (mw_0 _ _ _) (Nat.le_of_ble_eq_true rfl) dX3_readsStep_9 rfl ?_
    refine j_stk rfl mw_u0 ?_
    refine j_aload_n h (q := 13) 0 dX3_readsStep_12 rfl rfl ?_
    refine j_bipush h (q := 15) (100) dX3_readsStep_13 rfl (by decide) ?_
    refine j_cV h (q := 18) (C := RX3) (T := TX3) (N := 17) (ci := 3) mo_X3_isNext mI_X3_isNext mV_X3_isNext mL_X3_183 (m_isNext g w _ (by exact P) (i := i) (by exact ha) (by omega) (k := 100) (by decide) (by decide)) (by decide) (by decide) (mw_0 _ _ _) rfl rfl rfl (Nat.le_of_ble_eq_true rfl) dX3_readsStep_15 rfl ?_
    rintro _ w15 ⟨x15, rfl, e⟩
    obtain ⟨e1, rfl⟩ := e
    obtain rfl : x15 = 1 := e1.trans (b2i_t (beq_iff_eq.mpr h100)).symm
    rw [if_pos h100]
    refine j_if_eq h (tgt := 23) (q := 21) dX3_readsStep_18 rfl (by decide) (fun c_18 => ?_) (fun c_18 => ?_)
    · exact absurd (show (1 : Int32) = 0 from c_18) (by decide)
    refine j_iconst h (q := 22) (1) dX3_readsStep_21 rfl (by decide) ?_
    refine j_zret h rfl (by first | rfl | decide) dX3_readsStep_22 ?_
    refine ⟨_, rfl, by rw [hr]; rfl, Mfi M, Mse M, by rw [hr], fun _ z => absurd h100 z⟩
  · by_cases h102 : tx L ch i = 102
    · by_cases hc : 48 ≤ tx L ch (i + 1) ∧ tx L ch (i + 1) ≤ 48 + 7
      · have hr : rsG L ch i = (true, i + 2) := by unfold rsG; rw [if_neg h100, if_pos h102, if_pos hc]
        refine j_aload_n h (q := 1) 0 dX3_readsStep_0 rfl rfl ?_
        refine j_aload_n h (q := 2) 0 dX3_readsStep_1 rfl rfl ?_
        refine j_aload_n h (q := 3) 0 dX3_readsStep_2 rfl rfl ?_
        refine j_get h (q := 6) inX3 (C := RX3) (T := TX3) (N := 17) (ci := 3) rfl 13 (by decide) mF_X3_171 (by decide) (mw_0 _ _ _) rfl dX3_readsStep_3 rfl ?_
        rw [ha]
        refine j_cV h (q := 9) (C := RX3) (T := TX3) (N := 17) (ci := 3) mo_X3_character mI_X3_character mV_X3_character mL_X3_174 (m_character g w M P (i := i) (by omega)) (by decide) (by decide) (mw_0 _ _ _) rfl rfl rfl (Nat.le_of_ble_eq_true rfl) dX3_readsStep_6 rfl ?_
        rintro _ w6 ⟨x6, rfl, e⟩
        obtain ⟨rfl, rfl⟩ := e
        refine j_put h (q := 12) inX3 (C := RX3) (T := TX3) (N := 17) (ci := 3) rfl tyX3_ok nmX3 14 (by decide) mF_X3_180 rfl rfl rfl (by first | rfl | decide) (by decide) (mw_0 _ _ _) (Nat.le_of_ble_eq_true rfl) dX3_readsStep_9 rfl ?_
        refine j_stk rfl mw_u0 ?_
        refine j_aload_n h (q := 13) 0 dX3_readsStep_12 rfl rfl ?_
        refine j_bipush h (q := 15) (100) dX3_readsStep_13 rfl (by decide) ?_
        refine j_cV h (q := 18) (C := RX3) (T := TX3) (N := 17) (ci := 3) mo_X3_isNext mI_X3_isNext mV_X3_isNext mL_X3_183 (m_isNext g w _ (by exact P) (i := i) (by exact ha) (by omega) (k := 100) (by decide) (by decide)) (by decide) (by decide) (mw_0 _ _ _) rfl rfl rfl (Nat.le_of_ble_eq_true rfl) dX3_readsStep_15 rfl ?_
        rintro _ w15 ⟨x15, rfl, e⟩
        obtain ⟨e1, rfl⟩ := e
        obtain rfl : x15 = 0 := e1.trans (b2i_f (beq_eq_false_iff_ne.mpr h100)).symm
        rw [if_neg h100]
        refine j_if_eq h (tgt := 23) (q := 21) dX3_readsStep_18 rfl (by decide) (fun c_18 => ?_) (fun c_18 => ?_)
        rotate_left
        · exact absurd (show (0 : Int32) = 0 from rfl) c_18
        refine j_aload_n h (q := 24) 0 dX3_readsStep_23 rfl rfl ?_
        refine j_bipush h (q := 26) (102) dX3_readsStep_24 rfl (by decide) ?_
        refine j_cV h (q := 29) (C := RX3) (T := TX3) (N := 17) (ci := 3) mo_X3_isNext mI_X3_isNext mV_X3_isNext mL_X3_183 (m_isNext g w _ (by exact P) (i := i) (by rfl) (by omega) (k := 102) (by decide) (by decide)) (by decide) (by decide) (mw_0 _ _ _) rfl rfl rfl (Nat.le_of_ble_eq_true rfl) dX3_readsStep_26 rfl ?_
        rintro _ w26 ⟨x26, rfl, e⟩
        obtain ⟨e1, rfl⟩ := e
        obtain rfl : x26 = 1 := e1.trans (b2i_t (beq_iff_eq.mpr h102)).symm
        rw [if_pos h102]
        refine j_if_eq h (tgt := 55) (q := 32) dX3_readsStep_29 rfl (by decide) (fun c_29 => ?_) (fun c_29 => ?_)
        · exact absurd (show (1 : Int32) = 0 from c_29) (by decide)
        refine j_aload_n h (q := 33) 0 dX3_readsStep_32 rfl rfl ?_
        refine j_aload_n h (q := 34) 0 dX3_readsStep_33 rfl rfl ?_
        refine j_bipush h (q := 36) (7) dX3_readsStep_34 rfl (by decide) ?_
        refine j_cV h (q := 39) (C := RX3) (T := TX3) (N := 17) (ci := 3) mo_X3_takeDigit mI_X3_takeDigit mV_X3_takeDigit mL_X3_177 (m_takeDigit g w _ (by exact P) (i := i + 1) (by rfl) (by omega) (m := 7) (by decide)) (by decide) (by decide) (mw_0 _ _ _) rfl rfl rfl (Nat.le_of_ble_eq_true rfl) dX3_readsStep_36 rfl ?_
        rintro _ w36 ⟨x36, rfl, e⟩
        obtain ⟨rfl, rfl⟩ := e.1 hc
        refine j_put h (q := 42) inX3 (C := RX3) (T := TX3) (N := 17) (ci := 3) rfl tyX3_ok nmX3 15 (by decide) mF_X3_186 rfl rfl rfl (by first | rfl | decide) (by decide) (mw_0 _ _ _) (Nat.le_of_ble_eq_true rfl) dX3_readsStep_39 rfl ?_
        refine j_stk rfl mw_u0 ?_
        refine j_aload_n h (q := 43) 0 dX3_readsStep_42 rfl rfl ?_
        refine j_get h (q := 46) inX3 (C := RX3) (T := TX3) (N := 17) (ci := 3) rfl 15 (by decide) mF_X3_186 (by decide) (mw_0 _ _ _) rfl dX3_readsStep_43 rfl ?_
        refine j_if_lt h (tgt := 53) (q := 49) dX3_readsStep_46 rfl (by decide) (fun c_46 => ?_) (fun c_46 => ?_)
        · exact absurd c_46 (nI_pos (by omega))
        refine j_iconst h (q := 50) (1) dX3_readsStep_49 rfl (by decide) ?_
        refine j_goto h (tgt := 54) dX3_readsStep_50 (by decide) ?_
        refine j_zret h rfl (by first | rfl | decide) dX3_readsStep_54 ?_
        refine ⟨_, rfl, by rw [hr]; rfl, nI (tx L ch (i + 1) - 48), Mse M, by rw [hr], fun _ _ => ⟨fun _ => rfl, fun z => absurd h102 z⟩⟩
      · have hr : rsG L ch i = (false, i + 1) := by unfold rsG; rw [if_neg h100, if_pos h102, if_neg hc]
        refine j_aload_n h (q := 1) 0 dX3_readsStep_0 rfl rfl ?_
        refine j_aload_n h (q := 2) 0 dX3_readsStep_1 rfl rfl ?_
        refine j_aload_n h (q := 3) 0 dX3_readsStep_2 rfl rfl ?_
        refine j_get h (q := 6) inX3 (C := RX3) (T := TX3) (N := 17) (ci := 3) rfl 13 (by decide) mF_X3_171 (by decide) (mw_0 _ _ _) rfl dX3_readsStep_3 rfl ?_
        rw [ha]
        refine j_cV h (q := 9) (C := RX3) (T := TX3) (N := 17) (ci := 3) mo_X3_character mI_X3_character mV_X3_character mL_X3_174 (m_character g w M P (i := i) (by omega)) (by decide) (by decide) (mw_0 _ _ _) rfl rfl rfl (Nat.le_of_ble_eq_true rfl) dX3_readsStep_6 rfl ?_
        rintro _ w6 ⟨x6, rfl, e⟩
        obtain ⟨rfl, rfl⟩ := e
        refine j_put h (q := 12) inX3 (C := RX3) (T := TX3) (N := 17) (ci := 3) rfl tyX3_ok nmX3 14 (by decide) mF_X3_180 rfl rfl rfl (by first | rfl | decide) (by decide) (mw_0 _ _ _) (Nat.le_of_ble_eq_true rfl) dX3_readsStep_9 rfl ?_
        refine j_stk rfl mw_u0 ?_
        refine j_aload_n h (q := 13) 0 dX3_readsStep_12 rfl rfl ?_
        refine j_bipush h (q := 15) (100) dX3_readsStep_13 rfl (by decide) ?_
        refine j_cV h (q := 18) (C := RX3) (T := TX3) (N := 17) (ci := 3) mo_X3_isNext mI_X3_isNext mV_X3_isNext mL_X3_183 (m_isNext g w _ (by exact P) (i := i) (by exact ha) (by omega) (k := 100) (by decide) (by decide)) (by decide) (by decide) (mw_0 _ _ _) rfl rfl rfl (Nat.le_of_ble_eq_true rfl) dX3_readsStep_15 rfl ?_
        rintro _ w15 ⟨x15, rfl, e⟩
        obtain ⟨e1, rfl⟩ := e
        obtain rfl : x15 = 0 := e1.trans (b2i_f (beq_eq_false_iff_ne.mpr h100)).symm
        rw [if_neg h100]
        refine j_if_eq h (tgt := 23) (q := 21) dX3_readsStep_18 rfl (by decide) (fun c_18 => ?_) (fun c_18 => ?_)
        rotate_left
        · exact absurd (show (0 : Int32) = 0 from rfl) c_18
        refine j_aload_n h (q := 24) 0 dX3_readsStep_23 rfl rfl ?_
        refine j_bipush h (q := 26) (102) dX3_readsStep_24 rfl (by decide) ?_
        refine j_cV h (q := 29) (C := RX3) (T := TX3) (N := 17) (ci := 3) mo_X3_isNext mI_X3_isNext mV_X3_isNext mL_X3_183 (m_isNext g w _ (by exact P) (i := i) (by rfl) (by omega) (k := 102) (by decide) (by decide)) (by decide) (by decide) (mw_0 _ _ _) rfl rfl rfl (Nat.le_of_ble_eq_true rfl) dX3_readsStep_26 rfl ?_
        rintro _ w26 ⟨x26, rfl, e⟩
        obtain ⟨e1, rfl⟩ := e
        obtain rfl : x26 = 1 := e1.trans (b2i_t (beq_iff_eq.mpr h102)).symm
        rw [if_pos h102]
        refine j_if_eq h (tgt := 55) (q := 32) dX3_readsStep_29 rfl (by decide) (fun c_29 => ?_) (fun c_29 => ?_)
        · exact absurd (show (1 : Int32) = 0 from c_29) (by decide)
        refine j_aload_n h (q := 33) 0 dX3_readsStep_32 rfl rfl ?_
        refine j_aload_n h (q := 34) 0 dX3_readsStep_33 rfl rfl ?_
        refine j_bipush h (q := 36) (7) dX3_readsStep_34 rfl (by decide) ?_
        refine j_cV h (q := 39) (C := RX3) (T := TX3) (N := 17) (ci := 3) mo_X3_takeDigit mI_X3_takeDigit mV_X3_takeDigit mL_X3_177 (m_takeDigit g w _ (by exact P) (i := i + 1) (by rfl) (by omega) (m := 7) (by decide)) (by decide) (by decide) (mw_0 _ _ _) rfl rfl rfl (Nat.le_of_ble_eq_true rfl) dX3_readsStep_36 rfl ?_
        rintro _ w36 ⟨x36, rfl, e⟩
        obtain ⟨rfl, rfl⟩ := e.2 hc
        refine j_put h (q := 42) inX3 (C := RX3) (T := TX3) (N := 17) (ci := 3) rfl tyX3_ok nmX3 15 (by decide) mF_X3_186 rfl rfl rfl (by first | rfl | decide) (by decide) (mw_0 _ _ _) (Nat.le_of_ble_eq_true rfl) dX3_readsStep_39 rfl ?_
        refine j_stk rfl mw_u0 ?_
        refine j_aload_n h (q := 43) 0 dX3_readsStep_42 rfl rfl ?_
        refine j_get h (q := 46) inX3 (C := RX3) (T := TX3) (N := 17) (ci := 3) rfl 15 (by decide) mF_X3_186 (by decide) (mw_0 _ _ _) rfl dX3_readsStep_43 rfl ?_
        refine j_if_lt h (tgt := 53) (q := 49) dX3_readsStep_46 rfl (by decide) (fun c_46 => ?_) (fun c_46 => ?_)
        rotate_left
        · exact absurd (show (-1 : Int32) < 0 by decide) c_46
        refine j_iconst h (q := 54) (0) dX3_readsStep_53 rfl (by decide) ?_
        refine j_zret h rfl (by first | rfl | decide) dX3_readsStep_54 ?_
        refine ⟨_, rfl, by rw [hr]; rfl, -1, Mse M, by rw [hr], fun z => by rw [hr] at z; cases z⟩
    · by_cases hd : tdig L ch i = true
      · have hne := tend_dg hd
        have hge := tend_ge L ch i
        by_cases h62 : tx L ch (tend L ch i) = 62
        · by_cases hd2 : tdig L ch (tend L ch i + 1) = true
          · have hr : rsG L ch i = (true, tend L ch (tend L ch i + 1)) := by unfold rsG; rw [if_neg h100, if_neg h102, if_neg (fun z => z.elim hne (fun y => y h62)), if_neg (tend_dg hd2)]
            have h22 := tval_22 hd
            have h23 := tval_22 hd2
            refine j_aload_n h (q := 1) 0 dX3_readsStep_0 rfl rfl ?_
            refine j_aload_n h (q := 2) 0 dX3_readsStep_1 rfl rfl ?_
            refine j_aload_n h (q := 3) 0 dX3_readsStep_2 rfl rfl ?_
            refine j_get h (q := 6) inX3 (C := RX3) (T := TX3) (N := 17) (ci := 3) rfl 13 (by decide) mF_X3_171 (by decide) (mw_0 _ _ _) rfl dX3_readsStep_3 rfl ?_
            rw [ha]
            refine j_cV h (q := 9) (C := RX3) (T := TX3) (N := 17) (ci := 3) mo_X3_character mI_X3_character mV_X3_character mL_X3_174 (m_character g w M P (i := i) (by omega)) (by decide) (by decide) (mw_0 _ _ _) rfl rfl rfl (Nat.le_of_ble_eq_true rfl) dX3_readsStep_6 rfl ?_
            rintro _ w6 ⟨x6, rfl, e⟩
            obtain ⟨rfl, rfl⟩ := e
            refine j_put h (q := 12) inX3 (C := RX3) (T := TX3) (N := 17) (ci := 3) rfl tyX3_ok nmX3 14 (by decide) mF_X3_180 rfl rfl rfl (by first | rfl | decide) (by decide) (mw_0 _ _ _) (Nat.le_of_ble_eq_true rfl) dX3_readsStep_9 rfl ?_
            refine j_stk rfl mw_u0 ?_
            refine j_aload_n h (q := 13) 0 dX3_readsStep_12 rfl rfl ?_
            refine j_bipush h (q := 15) (100) dX3_readsStep_13 rfl (by decide) ?_
            refine j_cV h (q := 18) (C := RX3) (T := TX3) (N := 17) (ci := 3) mo_X3_isNext mI_X3_isNext mV_X3_isNext mL_X3_183 (m_isNext g w _ (by exact P) (i := i) (by exact ha) (by omega) (k := 100) (by decide) (by decide)) (by decide) (by decide) (mw_0 _ _ _) rfl rfl rfl (Nat.le_of_ble_eq_true rfl) dX3_readsStep_15 rfl ?_
            rintro _ w15 ⟨x15, rfl, e⟩
            obtain ⟨e1, rfl⟩ := e
            obtain rfl : x15 = 0 := e1.trans (b2i_f (beq_eq_false_iff_ne.mpr h100)).symm
            rw [if_neg h100]
            refine j_if_eq h (tgt := 23) (q := 21) dX3_readsStep_18 rfl (by decide) (fun c_18 => ?_) (fun c_18 => ?_)
            rotate_left
            · exact absurd (show (0 : Int32) = 0 from rfl) c_18
            refine j_aload_n h (q := 24) 0 dX3_readsStep_23 rfl rfl ?_
            refine j_bipush h (q := 26) (102) dX3_readsStep_24 rfl (by decide) ?_
            refine j_cV h (q := 29) (C := RX3) (T := TX3) (N := 17) (ci := 3) mo_X3_isNext mI_X3_isNext mV_X3_isNext mL_X3_183 (m_isNext g w _ (by exact P) (i := i) (by rfl) (by omega) (k := 102) (by decide) (by decide)) (by decide) (by decide) (mw_0 _ _ _) rfl rfl rfl (Nat.le_of_ble_eq_true rfl) dX3_readsStep_26 rfl ?_
            rintro _ w26 ⟨x26, rfl, e⟩
            obtain ⟨e1, rfl⟩ := e
            obtain rfl : x26 = 0 := e1.trans (b2i_f (beq_eq_false_iff_ne.mpr h102)).symm
            rw [if_neg h102]
            refine j_if_eq h (tgt := 55) (q := 32) dX3_readsStep_29 rfl (by decide) (fun c_29 => ?_) (fun c_29 => ?_)
            rotate_left
            · exact absurd (show (0 : Int32) = 0 from rfl) c_29
            refine j_aload_n h (q := 56) 0 dX3_readsStep_55 rfl rfl ?_
            refine j_aload_n h (q := 57) 0 dX3_readsStep_56 rfl rfl ?_
            refine j_cV h (q := 60) (C := RX3) (T := TX3) (N := 17) (ci := 3) mo_X3_takePile mI_X3_takePile mV_X3_takePile mL_X3_189 (m_takePile g w _ (by exact P) (i := i) (by rfl) (by omega)) (by decide) (by decide) (mw_0 _ _ _) rfl rfl rfl (Nat.le_of_ble_eq_true rfl) dX3_readsStep_57 rfl ?_
            rintro _ w57 ⟨x57, rfl, e⟩
            obtain ⟨rfl, rfl⟩ := e
            rw [show tdig L ch (i) = true from hd]
            refine j_put h (q := 63) inX3 (C := RX3) (T := TX3) (N := 17) (ci := 3) rfl tyX3_ok nmX3 15 (by decide) mF_X3_186 rfl rfl rfl (by first | rfl | decide) (by decide) (mw_0 _ _ _) (Nat.le_of_ble_eq_true rfl) dX3_readsStep_60 rfl ?_
            refine j_stk rfl mw_u0 ?_
            refine j_aload_n h (q := 64) 0 dX3_readsStep_63 rfl rfl ?_
            refine j_aload_n h (q := 65) 0 dX3_readsStep_64 rfl rfl ?_
            refine j_get h (q := 68) inX3 (C := RX3) (T := TX3) (N := 17) (ci := 3) rfl 15 (by decide) mF_X3_186 (by decide) (mw_0 _ _ _) rfl dX3_readsStep_65 rfl ?_
            refine j_if_lt h (tgt := 87) (q := 71) dX3_readsStep_68 rfl (by decide) (fun c_68 => ?_) (fun c_68 => ?_)
            · exact absurd c_68 (nI_pos (by omega))
            refine j_aload_n h (q := 72) 0 dX3_readsStep_71 rfl rfl ?_
            refine j_bipush h (q := 74) (62) dX3_readsStep_72 rfl (by decide) ?_
            refine j_cV h (q := 77) (C := RX3) (T := TX3) (N := 17) (ci := 3) mo_X3_isNext mI_X3_isNext mV_X3_isNext mL_X3_183 (m_isNext g w _ (by exact P) (i := tend L ch i) (by rfl) (by omega) (k := 62) (by decide) (by decide)) (by decide) (by decide) (mw_0 _ _ _) rfl rfl rfl (Nat.le_of_ble_eq_true rfl) dX3_readsStep_74 rfl ?_
            rintro _ w74 ⟨x74, rfl, e⟩
            obtain ⟨e1, rfl⟩ := e
            obtain rfl : x74 = 1 := e1.trans (b2i_t (beq_iff_eq.mpr h62)).symm
            rw [if_pos h62]
            refine j_if_eq h (tgt := 87) (q := 80) dX3_readsStep_77 rfl (by decide) (fun c_77 => ?_) (fun c_77 => ?_)
            · exact absurd (show (1 : Int32) = 0 from c_77) (by decide)
            refine j_aload_n h (q := 81) 0 dX3_readsStep_80 rfl rfl ?_
            refine j_cV h (q := 84) (C := RX3) (T := TX3) (N := 17) (ci := 3) mo_X3_takePile mI_X3_takePile mV_X3_takePile mL_X3_189 (m_takePile g w _ (by exact P) (i := tend L ch i + 1) (by rfl) (by omega)) (by decide) (by decide) (mw_0 _ _ _) rfl rfl rfl (Nat.le_of_ble_eq_true rfl) dX3_readsStep_81 rfl ?_
            rintro _ w81 ⟨x81, rfl, e⟩
            obtain ⟨rfl, rfl⟩ := e
            rw [show tdig L ch (tend L ch i + 1) = true from hd2]
            refine j_goto h (tgt := 88) dX3_readsStep_84 (by decide) ?_
            refine j_put h (q := 91) inX3 (C := RX3) (T := TX3) (N := 17) (ci := 3) rfl tyX3_ok nmX3 16 (by decide) mF_X3_192 rfl rfl rfl (by first | rfl | decide) (by decide) (mw_0 _ _ _) (Nat.le_of_ble_eq_true rfl) dX3_readsStep_88 rfl ?_
            refine j_stk rfl mw_u0 ?_
            refine j_aload_n h (q := 92) 0 dX3_readsStep_91 rfl rfl ?_
            refine j_get h (q := 95) inX3 (C := RX3) (T := TX3) (N := 17) (ci := 3) rfl 16 (by decide) mF_X3_192 (by decide) (mw_0 _ _ _) rfl dX3_readsStep_92 rfl ?_
            refine j_if_lt h (tgt := 102) (q := 98) dX3_readsStep_95 rfl (by decide) (fun c_95 => ?_) (fun c_95 => ?_)
            · exact absurd c_95 (nI_pos (by omega))
            refine j_iconst h (q := 99) (1) dX3_readsStep_98 rfl (by decide) ?_
            refine j_goto h (tgt := 103) dX3_readsStep_99 (by decide) ?_
            refine j_zret h rfl (by first | rfl | decide) dX3_readsStep_103 ?_
            refine ⟨_, rfl, by rw [hr]; rfl, nI (tval L ch i), nI (tval L ch (tend L ch i + 1)), by rw [hr]; rfl, fun _ _ => ⟨fun z => absurd z h102, fun _ => ⟨rfl, rfl⟩⟩⟩
          · have hf2 : tdig L ch (tend L ch i + 1) = false := by cases z : tdig L ch (tend L ch i + 1) <;> first | rfl | exact absurd z hd2
            have hr : rsG L ch i = (false, tend L ch i + 1) := by unfold rsG; rw [if_neg h100, if_neg h102, if_neg (fun z => z.elim hne (fun y => y h62)), if_pos (tend_no hf2)]
            have h22 := tval_22 hd
            have he := tend_no hf2
            refine j_aload_n h (q := 1) 0 dX3_readsStep_0 rfl rfl ?_
            refine j_aload_n h (q := 2) 0 dX3_readsStep_1 rfl rfl ?_
            refine j_aload_n h (q := 3) 0 dX3_readsStep_2 rfl rfl ?_
            refine j_get h (q := 6) inX3 (C := RX3) (T := TX3) (N := 17) (ci := 3) rfl 13 (by decide) mF_X3_171 (by decide) (mw_0 _ _ _) rfl dX3_readsStep_3 rfl ?_
            rw [ha]
            refine j_cV h (q := 9) (C := RX3) (T := TX3) (N := 17) (ci := 3) mo_X3_character mI_X3_character mV_X3_character mL_X3_174 (m_character g w M P (i := i) (by omega)) (by decide) (by decide) (mw_0 _ _ _) rfl rfl rfl (Nat.le_of_ble_eq_true rfl) dX3_readsStep_6 rfl ?_
            rintro _ w6 ⟨x6, rfl, e⟩
            obtain ⟨rfl, rfl⟩ := e
            refine j_put h (q := 12) inX3 (C := RX3) (T := TX3) (N := 17) (ci := 3) rfl tyX3_ok nmX3 14 (by decide) mF_X3_180 rfl rfl rfl (by first | rfl | decide) (by decide) (mw_0 _ _ _) (Nat.le_of_ble_eq_true rfl) dX3_readsStep_9 rfl ?_
            refine j_stk rfl mw_u0 ?_
            refine j_aload_n h (q := 13) 0 dX3_readsStep_12 rfl rfl ?_
            refine j_bipush h (q := 15) (100) dX3_readsStep_13 rfl (by decide) ?_
            refine j_cV h (q := 18) (C := RX3) (T := TX3) (N := 17) (ci := 3) mo_X3_isNext mI_X3_isNext mV_X3_isNext mL_X3_183 (m_isNext g w _ (by exact P) (i := i) (by exact ha) (by omega) (k := 100) (by decide) (by decide)) (by decide) (by decide) (mw_0 _ _ _) rfl rfl rfl (Nat.le_of_ble_eq_true rfl) dX3_readsStep_15 rfl ?_
            rintro _ w15 ⟨x15, rfl, e⟩
            obtain ⟨e1, rfl⟩ := e
            obtain rfl : x15 = 0 := e1.trans (b2i_f (beq_eq_false_iff_ne.mpr h100)).symm
            rw [if_neg h100]
            refine j_if_eq h (tgt := 23) (q := 21) dX3_readsStep_18 rfl (by decide) (fun c_18 => ?_) (fun c_18 => ?_)
            rotate_left
            · exact absurd (show (0 : Int32) = 0 from rfl) c_18
            refine j_aload_n h (q := 24) 0 dX3_readsStep_23 rfl rfl ?_
            refine j_bipush h (q := 26) (102) dX3_readsStep_24 rfl (by decide) ?_
            refine j_cV h (q := 29) (C := RX3) (T := TX3) (N := 17) (ci := 3) mo_X3_isNext mI_X3_isNext mV_X3_isNext mL_X3_183 (m_isNext g w _ (by exact P) (i := i) (by rfl) (by omega) (k := 102) (by decide) (by decide)) (by decide) (by decide) (mw_0 _ _ _) rfl rfl rfl (Nat.le_of_ble_eq_true rfl) dX3_readsStep_26 rfl ?_
            rintro _ w26 ⟨x26, rfl, e⟩
            obtain ⟨e1, rfl⟩ := e
            obtain rfl : x26 = 0 := e1.trans (b2i_f (beq_eq_false_iff_ne.mpr h102)).symm
            rw [if_neg h102]
            refine j_if_eq h (tgt := 55) (q := 32) dX3_readsStep_29 rfl (by decide) (fun c_29 => ?_) (fun c_29 => ?_)
            rotate_left
            · exact absurd (show (0 : Int32) = 0 from rfl) c_29
            refine j_aload_n h (q := 56) 0 dX3_readsStep_55 rfl rfl ?_
            refine j_aload_n h (q := 57) 0 dX3_readsStep_56 rfl rfl ?_
            refine j_cV h (q := 60) (C := RX3) (T := TX3) (N := 17) (ci := 3) mo_X3_takePile mI_X3_takePile mV_X3_takePile mL_X3_189 (m_takePile g w _ (by exact P) (i := i) (by rfl) (by omega)) (by decide) (by decide) (mw_0 _ _ _) rfl rfl rfl (Nat.le_of_ble_eq_true rfl) dX3_readsStep_57 rfl ?_
            rintro _ w57 ⟨x57, rfl, e⟩
            obtain ⟨rfl, rfl⟩ := e
            rw [show tdig L ch (i) = true from hd]
            refine j_put h (q := 63) inX3 (C := RX3) (T := TX3) (N := 17) (ci := 3) rfl tyX3_ok nmX3 15 (by decide) mF_X3_186 rfl rfl rfl (by first | rfl | decide) (by decide) (mw_0 _ _ _) (Nat.le_of_ble_eq_true rfl) dX3_readsStep_60 rfl ?_
            refine j_stk rfl mw_u0 ?_
            refine j_aload_n h (q := 64) 0 dX3_readsStep_63 rfl rfl ?_
            refine j_aload_n h (q := 65) 0 dX3_readsStep_64 rfl rfl ?_
            refine j_get h (q := 68) inX3 (C := RX3) (T := TX3) (N := 17) (ci := 3) rfl 15 (by decide) mF_X3_186 (by decide) (mw_0 _ _ _) rfl dX3_readsStep_65 rfl ?_
            refine j_if_lt h (tgt := 87) (q := 71) dX3_readsStep_68 rfl (by decide) (fun c_68 => ?_) (fun c_68 => ?_)
            · exact absurd c_68 (nI_pos (by omega))
            refine j_aload_n h (q := 72) 0 dX3_readsStep_71 rfl rfl ?_
            refine j_bipush h (q := 74) (62) dX3_readsStep_72 rfl (by decide) ?_
            refine j_cV h (q := 77) (C := RX3) (T := TX3) (N := 17) (ci := 3) mo_X3_isNext mI_X3_isNext mV_X3_isNext mL_X3_183 (m_isNext g w _ (by exact P) (i := tend L ch i) (by rfl) (by omega) (k := 62) (by decide) (by decide)) (by decide) (by decide) (mw_0 _ _ _) rfl rfl rfl (Nat.le_of_ble_eq_true rfl) dX3_readsStep_74 rfl ?_
            rintro _ w74 ⟨x74, rfl, e⟩
            obtain ⟨e1, rfl⟩ := e
            obtain rfl : x74 = 1 := e1.trans (b2i_t (beq_iff_eq.mpr h62)).symm
            rw [if_pos h62]
            refine j_if_eq h (tgt := 87) (q := 80) dX3_readsStep_77 rfl (by decide) (fun c_77 => ?_) (fun c_77 => ?_)
            · exact absurd (show (1 : Int32) = 0 from c_77) (by decide)
            refine j_aload_n h (q := 81) 0 dX3_readsStep_80 rfl rfl ?_
            refine j_cV h (q := 84) (C := RX3) (T := TX3) (N := 17) (ci := 3) mo_X3_takePile mI_X3_takePile mV_X3_takePile mL_X3_189 (m_takePile g w _ (by exact P) (i := tend L ch i + 1) (by rfl) (by omega)) (by decide) (by decide) (mw_0 _ _ _) rfl rfl rfl (Nat.le_of_ble_eq_true rfl) dX3_readsStep_81 rfl ?_
            rintro _ w81 ⟨x81, rfl, e⟩
            obtain ⟨rfl, rfl⟩ := e
            rw [show tdig L ch (tend L ch i + 1) = false from hf2]
            refine j_goto h (tgt := 88) dX3_readsStep_84 (by decide) ?_
            refine j_put h (q := 91) inX3 (C := RX3) (T := TX3) (N := 17) (ci := 3) rfl tyX3_ok nmX3 16 (by decide) mF_X3_192 rfl rfl rfl (by first | rfl | decide) (by decide) (mw_0 _ _ _) (Nat.le_of_ble_eq_true rfl) dX3_readsStep_88 rfl ?_
            refine j_stk rfl mw_u0 ?_
            refine j_aload_n h (q := 92) 0 dX3_readsStep_91 rfl rfl ?_
            refine j_get h (q := 95) inX3 (C := RX3) (T := TX3) (N := 17) (ci := 3) rfl 16 (by decide) mF_X3_192 (by decide) (mw_0 _ _ _) rfl dX3_readsStep_92 rfl ?_
            refine j_if_lt h (tgt := 102) (q := 98) dX3_readsStep_95 rfl (by decide) (fun c_95 => ?_) (fun c_95 => ?_)
            rotate_left
            · exact absurd (show (-1 : Int32) < 0 by decide) c_95
            refine j_iconst h (q := 103) (0) dX3_readsStep_102 rfl (by decide) ?_
            refine j_zret h rfl (by first | rfl | decide) dX3_readsStep_103 ?_
            refine ⟨_, rfl, by rw [hr]; rfl, nI (tval L ch i), -1, by rw [hr, he]; rfl, fun z => by rw [hr] at z; cases z⟩
        · have hr : rsG L ch i = (false, tend L ch i) := by unfold rsG; rw [if_neg h100, if_neg h102, if_pos (Or.inr h62)]
          have h22 := tval_22 hd
          refine j_aload_n h (q := 1) 0 dX3_readsStep_0 rfl rfl ?_
          refine j_aload_n h (q := 2) 0 dX3_readsStep_1 rfl rfl ?_
          refine j_aload_n h (q := 3) 0 dX3_readsStep_2 rfl rfl ?_
          refine j_get h (q := 6) inX3 (C := RX3) (T := TX3) (N := 17) (ci := 3) rfl 13 (by decide) mF_X3_171 (by decide) (mw_0 _ _ _) rfl dX3_readsStep_3 rfl ?_
          rw [ha]
          refine j_cV h (q := 9) (C := RX3) (T := TX3) (N := 17) (ci := 3) mo_X3_character mI_X3_character mV_X3_character mL_X3_174 (m_character g w M P (i := i) (by omega)) (by decide) (by decide) (mw_0 _ _ _) rfl rfl rfl (Nat.le_of_ble_eq_true rfl) dX3_readsStep_6 rfl ?_
          rintro _ w6 ⟨x6, rfl, e⟩
          obtain ⟨rfl, rfl⟩ := e
          refine j_put h (q := 12) inX3 (C := RX3) (T := TX3) (N := 17) (ci := 3) rfl tyX3_ok nmX3 14 (by decide) mF_X3_180 rfl rfl rfl (by first | rfl | decide) (by decide) (mw_0 _ _ _) (Nat.le_of_ble_eq_true rfl) dX3_readsStep_9 rfl ?_
          refine j_stk rfl mw_u0 ?_
          refine j_aload_n h (q := 13) 0 dX3_readsStep_12 rfl rfl ?_
          refine j_bipush h (q := 15) (100) dX3_readsStep_13 rfl (by decide) ?_
          refine j_cV h (q := 18) (C := RX3) (T := TX3) (N := 17) (ci := 3) mo_X3_isNext mI_X3_isNext mV_X3_isNext mL_X3_183 (m_isNext g w _ (by exact P) (i := i) (by exact ha) (by omega) (k := 100) (by decide) (by decide)) (by decide) (by decide) (mw_0 _ _ _) rfl rfl rfl (Nat.le_of_ble_eq_true rfl) dX3_readsStep_15 rfl ?_
          rintro _ w15 ⟨x15, rfl, e⟩
          obtain ⟨e1, rfl⟩ := e
          obtain rfl : x15 = 0 := e1.trans (b2i_f (beq_eq_false_iff_ne.mpr h100)).symm
          rw [if_neg h100]
          refine j_if_eq h (tgt := 23) (q := 21) dX3_readsStep_18 rfl (by decide) (fun c_18 => ?_) (fun c_18 => ?_)
          rotate_left
          · exact absurd (show (0 : Int32) = 0 from rfl) c_18
          refine j_aload_n h (q := 24) 0 dX3_readsStep_23 rfl rfl ?_
          refine j_bipush h (q := 26) (102) dX3_readsStep_24 rfl (by decide) ?_
          refine j_cV h (q := 29) (C := RX3) (T := TX3) (N := 17) (ci := 3) mo_X3_isNext mI_X3_isNext mV_X3_isNext mL_X3_183 (m_isNext g w _ (by exact P) (i := i) (by rfl) (by omega) (k := 102) (by decide) (by decide)) (by decide) (by decide) (mw_0 _ _ _) rfl rfl rfl (Nat.le_of_ble_eq_true rfl) dX3_readsStep_26 rfl ?_
          rintro _ w26 ⟨x26, rfl, e⟩
          obtain ⟨e1, rfl⟩ := e
          obtain rfl : x26 = 0 := e1.trans (b2i_f (beq_eq_false_iff_ne.mpr h102)).symm
          rw [if_neg h102]
          refine j_if_eq h (tgt := 55) (q := 32) dX3_readsStep_29 rfl (by decide) (fun c_29 => ?_) (fun c_29 => ?_)
          rotate_left
          · exact absurd (show (0 : Int32) = 0 from rfl) c_29
          refine j_aload_n h (q := 56) 0 dX3_readsStep_55 rfl rfl ?_
          refine j_aload_n h (q := 57) 0 dX3_readsStep_56 rfl rfl ?_
          refine j_cV h (q := 60) (C := RX3) (T := TX3) (N := 17) (ci := 3) mo_X3_takePile mI_X3_takePile mV_X3_takePile mL_X3_189 (m_takePile g w _ (by exact P) (i := i) (by rfl) (by omega)) (by decide) (by decide) (mw_0 _ _ _) rfl rfl rfl (Nat.le_of_ble_eq_true rfl) dX3_readsStep_57 rfl ?_
          rintro _ w57 ⟨x57, rfl, e⟩
          obtain ⟨rfl, rfl⟩ := e
          rw [show tdig L ch (i) = true from hd]
          refine j_put h (q := 63) inX3 (C := RX3) (T := TX3) (N := 17) (ci := 3) rfl tyX3_ok nmX3 15 (by decide) mF_X3_186 rfl rfl rfl (by first | rfl | decide) (by decide) (mw_0 _ _ _) (Nat.le_of_ble_eq_true rfl) dX3_readsStep_60 rfl ?_
          refine j_stk rfl mw_u0 ?_
          refine j_aload_n h (q := 64) 0 dX3_readsStep_63 rfl rfl ?_
          refine j_aload_n h (q := 65) 0 dX3_readsStep_64 rfl rfl ?_
          refine j_get h (q := 68) inX3 (C := RX3) (T := TX3) (N := 17) (ci := 3) rfl 15 (by decide) mF_X3_186 (by decide) (mw_0 _ _ _) rfl dX3_readsStep_65 rfl ?_
          refine j_if_lt h (tgt := 87) (q := 71) dX3_readsStep_68 rfl (by decide) (fun c_68 => ?_) (fun c_68 => ?_)
          · exact absurd c_68 (nI_pos (by omega))
          refine j_aload_n h (q := 72) 0 dX3_readsStep_71 rfl rfl ?_
          refine j_bipush h (q := 74) (62) dX3_readsStep_72 rfl (by decide) ?_
          refine j_cV h (q := 77) (C := RX3) (T := TX3) (N := 17) (ci := 3) mo_X3_isNext mI_X3_isNext mV_X3_isNext mL_X3_183 (m_isNext g w _ (by exact P) (i := tend L ch i) (by rfl) (by omega) (k := 62) (by decide) (by decide)) (by decide) (by decide) (mw_0 _ _ _) rfl rfl rfl (Nat.le_of_ble_eq_true rfl) dX3_readsStep_74 rfl ?_
          rintro _ w74 ⟨x74, rfl, e⟩
          obtain ⟨e1, rfl⟩ := e
          obtain rfl : x74 = 0 := e1.trans (b2i_f (beq_eq_false_iff_ne.mpr h62)).symm
          rw [if_neg h62]
          refine j_if_eq h (tgt := 87) (q := 80) dX3_readsStep_77 rfl (by decide) (fun c_77 => ?_) (fun c_77 => ?_)
          rotate_left
          · exact absurd (show (0 : Int32) = 0 from rfl) c_77
          refine j_iconst h (q := 88) (-1) dX3_readsStep_87 rfl (by decide) ?_
          refine j_put h (q := 91) inX3 (C := RX3) (T := TX3) (N := 17) (ci := 3) rfl tyX3_ok nmX3 16 (by decide) mF_X3_192 rfl rfl rfl (by first | rfl | decide) (by decide) (mw_0 _ _ _) (Nat.le_of_ble_eq_true rfl) dX3_readsStep_88 rfl ?_
          refine j_stk rfl mw_u0 ?_
          refine j_aload_n h (q := 92) 0 dX3_readsStep_91 rfl rfl ?_
          refine j_get h (q := 95) inX3 (C := RX3) (T := TX3) (N := 17) (ci := 3) rfl 16 (by decide) mF_X3_192 (by decide) (mw_0 _ _ _) rfl dX3_readsStep_92 rfl ?_
          refine j_if_lt h (tgt := 102) (q := 98) dX3_readsStep_95 rfl (by decide) (fun c_95 => ?_) (fun c_95 => ?_)
          rotate_left
          · exact absurd (show (-1 : Int32) < 0 by decide) c_95
          refine j_iconst h (q := 103) (0) dX3_readsStep_102 rfl (by decide) ?_
          refine j_zret h rfl (by first | rfl | decide) dX3_readsStep_103 ?_
          refine ⟨_, rfl, by rw [hr]; rfl, nI (tval L ch i), -1, by rw [hr]; rfl, fun z => by rw [hr] at z; cases z⟩
      · have hf : tdig L ch i = false := by cases z : tdig L ch i <;> first | rfl | exact absurd z hd
        have he := tend_no hf
        have hr : rsG L ch i = (false, tend L ch i) := by unfold rsG; rw [if_neg h100, if_neg h102, if_pos (Or.inl he)]
        refine j_aload_n h (q := 1) 0 dX3_readsStep_0 rfl rfl ?_
        refine j_aload_n h (q := 2) 0 dX3_readsStep_1 rfl rfl ?_
        refine j_aload_n h (q := 3) 0 dX3_readsStep_2 rfl rfl ?_
        refine j_get h (q := 6) inX3 (C := RX3) (T := TX3) (N := 17) (ci := 3) rfl 13 (by decide) mF_X3_171 (by decide) (mw_0 _ _ _) rfl dX3_readsStep_3 rfl ?_
        rw [ha]
        refine j_cV h (q := 9) (C := RX3) (T := TX3) (N := 17) (ci := 3) mo_X3_character mI_X3_character mV_X3_character mL_X3_174 (m_character g w M P (i := i) (by omega)) (by decide) (by decide) (mw_0 _ _ _) rfl rfl rfl (Nat.le_of_ble_eq_true rfl) dX3_readsStep_6 rfl ?_
        rintro _ w6 ⟨x6, rfl, e⟩
        obtain ⟨rfl, rfl⟩ := e
        refine j_put h (q := 12) inX3 (C := RX3) (T := TX3) (N := 17) (ci := 3) rfl tyX3_ok nmX3 14 (by decide) mF_X3_180 rfl rfl rfl (by first | rfl | decide) (by decide) (mw_0 _ _ _) (Nat.le_of_ble_eq_true rfl) dX3_readsStep_9 rfl ?_
        refine j_stk rfl mw_u0 ?_
        refine j_aload_n h (q := 13) 0 dX3_readsStep_12 rfl rfl ?_
        refine j_bipush h (q := 15) (100) dX3_readsStep_13 rfl (by decide) ?_
        refine j_cV h (q := 18) (C := RX3) (T := TX3) (N := 17) (ci := 3) mo_X3_isNext mI_X3_isNext mV_X3_isNext mL_X3_183 (m_isNext g w _ (by exact P) (i := i) (by exact ha) (by omega) (k := 100) (by decide) (by decide)) (by decide) (by decide) (mw_0 _ _ _) rfl rfl rfl (Nat.le_of_ble_eq_true rfl) dX3_readsStep_15 rfl ?_
        rintro _ w15 ⟨x15, rfl, e⟩
        obtain ⟨e1, rfl⟩ := e
        obtain rfl : x15 = 0 := e1.trans (b2i_f (beq_eq_false_iff_ne.mpr h100)).symm
        rw [if_neg h100]
        refine j_if_eq h (tgt := 23) (q := 21) dX3_readsStep_18 rfl (by decide) (fun c_18 => ?_) (fun c_18 => ?_)
        rotate_left
        · exact absurd (show (0 : Int32) = 0 from rfl) c_18
        refine j_aload_n h (q := 24) 0 dX3_readsStep_23 rfl rfl ?_
        refine j_bipush h (q := 26) (102) dX3_readsStep_24 rfl (by decide) ?_
        refine j_cV h (q := 29) (C := RX3) (T := TX3) (N := 17) (ci := 3) mo_X3_isNext mI_X3_isNext mV_X3_isNext mL_X3_183 (m_isNext g w _ (by exact P) (i := i) (by rfl) (by omega) (k := 102) (by decide) (by decide)) (by decide) (by decide) (mw_0 _ _ _) rfl rfl rfl (Nat.le_of_ble_eq_true rfl) dX3_readsStep_26 rfl ?_
        rintro _ w26 ⟨x26, rfl, e⟩
        obtain ⟨e1, rfl⟩ := e
        obtain rfl : x26 = 0 := e1.trans (b2i_f (beq_eq_false_iff_ne.mpr h102)).symm
        rw [if_neg h102]
        refine j_if_eq h (tgt := 55) (q := 32) dX3_readsStep_29 rfl (by decide) (fun c_29 => ?_) (fun c_29 => ?_)
        rotate_left
        · exact absurd (show (0 : Int32) = 0 from rfl) c_29
        refine j_aload_n h (q := 56) 0 dX3_readsStep_55 rfl rfl ?_
        refine j_aload_n h (q := 57) 0 dX3_readsStep_56 rfl rfl ?_
        refine j_cV h (q := 60) (C := RX3) (T := TX3) (N := 17) (ci := 3) mo_X3_takePile mI_X3_takePile mV_X3_takePile mL_X3_189 (m_takePile g w _ (by exact P) (i := i) (by rfl) (by omega)) (by decide) (by decide) (mw_0 _ _ _) rfl rfl rfl (Nat.le_of_ble_eq_true rfl) dX3_readsStep_57 rfl ?_
        rintro _ w57 ⟨x57, rfl, e⟩
        obtain ⟨rfl, rfl⟩ := e
        rw [show tdig L ch (i) = false from hf]
        refine j_put h (q := 63) inX3 (C := RX3) (T := TX3) (N := 17) (ci := 3) rfl tyX3_ok nmX3 15 (by decide) mF_X3_186 rfl rfl rfl (by first | rfl | decide) (by decide) (mw_0 _ _ _) (Nat.le_of_ble_eq_true rfl) dX3_readsStep_60 rfl ?_
        refine j_stk rfl mw_u0 ?_
        refine j_aload_n h (q := 64) 0 dX3_readsStep_63 rfl rfl ?_
        refine j_aload_n h (q := 65) 0 dX3_readsStep_64 rfl rfl ?_
        refine j_get h (q := 68) inX3 (C := RX3) (T := TX3) (N := 17) (ci := 3) rfl 15 (by decide) mF_X3_186 (by decide) (mw_0 _ _ _) rfl dX3_readsStep_65 rfl ?_
        refine j_if_lt h (tgt := 87) (q := 71) dX3_readsStep_68 rfl (by decide) (fun c_68 => ?_) (fun c_68 => ?_)
        rotate_left
        · exact absurd (show (-1 : Int32) < 0 by decide) c_68
        refine j_iconst h (q := 88) (-1) dX3_readsStep_87 rfl (by decide) ?_
        refine j_put h (q := 91) inX3 (C := RX3) (T := TX3) (N := 17) (ci := 3) rfl tyX3_ok nmX3 16 (by decide) mF_X3_192 rfl rfl rfl (by first | rfl | decide) (by decide) (mw_0 _ _ _) (Nat.le_of_ble_eq_true rfl) dX3_readsStep_88 rfl ?_
        refine j_stk rfl mw_u0 ?_
        refine j_aload_n h (q := 92) 0 dX3_readsStep_91 rfl rfl ?_
        refine j_get h (q := 95) inX3 (C := RX3) (T := TX3) (N := 17) (ci := 3) rfl 16 (by decide) mF_X3_192 (by decide) (mw_0 _ _ _) rfl dX3_readsStep_92 rfl ?_
        refine j_if_lt h (tgt := 102) (q := 98) dX3_readsStep_95 rfl (by decide) (fun c_95 => ?_) (fun c_95 => ?_)
        rotate_left
        · exact absurd (show (-1 : Int32) < 0 by decide) c_95
        refine j_iconst h (q := 103) (0) dX3_readsStep_102 rfl (by decide) ?_
        refine j_zret h rfl (by first | rfl | decide) dX3_readsStep_103 ?_
        refine ⟨_, rfl, by rw [hr]; rfl, -1, -1, by rw [hr]; rfl, fun z => by rw [hr] at z; cases z⟩

set_option maxRecDepth 100000 in
set_option maxHeartbeats 4000000 in
theorem lp_faultM (g : jG) (w : jW) (M0 : Ms) {K : jK} {Φ : Option Value → jW → Prop} (h : jH g K RX3 cX3_findFault 1 (some (.int))) {L : Nat} {ch : Nat → Nat} : ∀ k i M, MD M L ch → Mat M = nI i → i ≤ L → L < k + i → KE M0 M → Mst M = Mst M0 → (∀ M', KE M0 M' → Mst M' = Mst M0 → ∀ x, x = ov (ffG L ch k i) → Φ (some (.int x)) (mw g w M')) → J g 5 K 1 Φ 5 [(0, .ref (gr g 67))] [] (mw g w M) := by
  intro k
  induction k with
  | zero =>
    intro i M P ha hi hk hK hS kk
    omega
  | succ k ih =>
    intro i M P ha hi hk hK hS kk
    have hL := P.2.1
    have hrb := rs_b L ch i
    cases hr : (rsG L ch i).1 with
    | false =>
      have hf : ffG L ch (k + 1) i = some (rsG L ch i).2 := if_pos hr
      refine j_aload_n h (q := 6) 0 dX3_findFault_5 rfl rfl ?_
      refine j_cV h (q := 9) (C := RX3) (T := TX3) (N := 17) (ci := 3) mo_X3_readsStep mI_X3_readsStep mV_X3_readsStep mL_X3_195 (m_readsStep g w M P ha (by omega)) (by decide) (by decide) (mw_0 _ _ _) rfl rfl rfl (Nat.le_of_ble_eq_true rfl) dX3_findFault_6 rfl ?_
      rintro _ w6 ⟨x6, rfl, e⟩
      obtain ⟨rfl, fi, se, rfl, -⟩ := e
      rw [hr]
      refine j_if_ne h (tgt := 17) (q := 12) dX3_findFault_9 rfl (by decide) (fun c_9 => ?_) (fun c_9 => ?_)
      · exact absurd (show b2i false = 0 from rfl) c_9
      refine j_aload_n h (q := 13) 0 dX3_findFault_12 rfl rfl ?_
      refine j_get h (q := 16) inX3 (C := RX3) (T := TX3) (N := 17) (ci := 3) rfl 13 (by decide) mF_X3_171 (by decide) (mw_0 _ _ _) rfl dX3_findFault_13 rfl ?_
      refine j_iret h rfl dX3_findFault_16 ?_
      exact kk (rsM M (nI (rsG L ch i).2) (ctI L ch i) fi se) hK hS _ (by rw [hf]; rfl)
    | true =>
      obtain ⟨hg1, hg2⟩ := rs_gt hr
      by_cases hL2 : (rsG L ch i).2 = L
      · have hf : ffG L ch (k + 1) i = none := by show (if _ then _ else if _ then _ else _) = _; rw [if_neg (by rw [hr]; decide), if_pos hL2]
        refine j_aload_n h (q := 6) 0 dX3_findFault_5 rfl rfl ?_
        refine j_cV h (q := 9) (C := RX3) (T := TX3) (N := 17) (ci := 3) mo_X3_readsStep mI_X3_readsStep mV_X3_readsStep mL_X3_195 (m_readsStep g w M P ha (by omega)) (by decide) (by decide) (mw_0 _ _ _) rfl rfl rfl (Nat.le_of_ble_eq_true rfl) dX3_findFault_6 rfl ?_
        rintro _ w6 ⟨x6, rfl, e⟩
        obtain ⟨rfl, fi, se, rfl, -⟩ := e
        rw [hr]
        refine j_if_ne h (tgt := 17) (q := 12) dX3_findFault_9 rfl (by decide) (fun c_9 => ?_) (fun c_9 => ?_)
        rotate_left
        · exact absurd (show b2i true = 0 from c_9) (by decide)
        refine j_aload_n h (q := 18) 0 dX3_findFault_17 rfl rfl ?_
        refine j_get h (q := 21) inX3 (C := RX3) (T := TX3) (N := 17) (ci := 3) rfl 13 (by decide) mF_X3_171 (by decide) (mw_0 _ _ _) rfl dX3_findFault_18 rfl ?_
        refine j_aload_n h (q := 22) 0 dX3_findFault_21 rfl rfl ?_
        refine j_get h (q := 25) inX3 (C := RX3) (T := TX3) (N := 17) (ci := 3) rfl 7 (by decide) mF_X3_163 (by decide) (mw_0 _ _ _) rfl dX3_findFault_22 rfl ?_
        refine j_icmp_ne h (tgt := 31) (q := 28) dX3_findFault_25 rfl (by decide) (fun c_25 => ?_) (fun c_25 => ?_)
        · rw [P.1, nI_eqS (by omega) (by omega)] at c_25; exact absurd hL2 c_25
        refine j_bipush h (q := 30) (-6) dX3_findFault_28 rfl (by decide) ?_
        refine j_iret h rfl dX3_findFault_30 ?_
        exact kk (rsM M (nI (rsG L ch i).2) (ctI L ch i) fi se) hK hS _ (by rw [hf]; rfl)
      · by_cases h44 : tx L ch (rsG L ch i).2 = 44
        · have hf : ffG L ch (k + 1) i = ffG L ch k ((rsG L ch i).2 + 1) := by show (if _ then _ else if _ then _ else if _ then _ else _) = _; rw [if_neg (by rw [hr]; decide), if_neg hL2, if_neg (fun z => z h44)]
          rw [hf] at kk
          refine j_aload_n h (q := 6) 0 dX3_findFault_5 rfl rfl ?_
          refine j_cV h (q := 9) (C := RX3) (T := TX3) (N := 17) (ci := 3) mo_X3_readsStep mI_X3_readsStep mV_X3_readsStep mL_X3_195 (m_readsStep g w M P ha (by omega)) (by decide) (by decide) (mw_0 _ _ _) rfl rfl rfl (Nat.le_of_ble_eq_true rfl) dX3_findFault_6 rfl ?_
          rintro _ w6 ⟨x6, rfl, e⟩
          obtain ⟨rfl, fi, se, rfl, -⟩ := e
          rw [hr]
          refine j_if_ne h (tgt := 17) (q := 12) dX3_findFault_9 rfl (by decide) (fun c_9 => ?_) (fun c_9 => ?_)
          rotate_left
          · exact absurd (show b2i true = 0 from c_9) (by decide)
          refine j_aload_n h (q := 18) 0 dX3_findFault_17 rfl rfl ?_
          refine j_get h (q := 21) inX3 (C := RX3) (T := TX3) (N := 17) (ci := 3) rfl 13 (by decide) mF_X3_171 (by decide) (mw_0 _ _ _) rfl dX3_findFault_18 rfl ?_
          refine j_aload_n h (q := 22) 0 dX3_findFault_21 rfl rfl ?_
          refine j_get h (q := 25) inX3 (C := RX3) (T := TX3) (N := 17) (ci := 3) rfl 7 (by decide) mF_X3_163 (by decide) (mw_0 _ _ _) rfl dX3_findFault_22 rfl ?_
          refine j_icmp_ne h (tgt := 31) (q := 28) dX3_findFault_25 rfl (by decide) (fun c_25 => ?_) (fun c_25 => ?_)
          rotate_left
          · rw [P.1, nI_eqS (by omega) (by omega)] at c_25; exact absurd c_25 hL2
          refine j_aload_n h (q := 32) 0 dX3_findFault_31 rfl rfl ?_
          refine j_bipush h (q := 34) (44) dX3_findFault_32 rfl (by decide) ?_
          refine j_cV h (q := 37) (C := RX3) (T := TX3) (N := 17) (ci := 3) mo_X3_isNext mI_X3_isNext mV_X3_isNext mL_X3_183 (m_isNext g w _ (by exact P) (i := (rsG L ch i).2) (by rfl) (by omega) (k := 44) (by decide) (by decide)) (by decide) (by decide) (mw_0 _ _ _) rfl rfl rfl (Nat.le_of_ble_eq_true rfl) dX3_findFault_34 rfl ?_
          rintro _ w34 ⟨x34, rfl, e⟩
          obtain ⟨e1, rfl⟩ := e
          obtain rfl : x34 = 1 := e1.trans (b2i_t (beq_iff_eq.mpr h44)).symm
          rw [if_pos h44]
          refine j_if_ne h (tgt := 5) (q := 40) dX3_findFault_37 rfl (by decide) (fun c_37 => ?_) (fun c_37 => ?_)
          rotate_left
          · exact absurd (show (1 : Int32) = 0 from c_37) (by decide)
          exact ih ((rsG L ch i).2 + 1) (mat (rsM M (nI (rsG L ch i).2) (ctI L ch i) fi se) (nI ((rsG L ch i).2 + 1))) P rfl (by omega) (by omega) hK hS kk
        · have hf : ffG L ch (k + 1) i = some (rsG L ch i).2 := by show (if _ then _ else if _ then _ else if _ then _ else _) = _; rw [if_neg (by rw [hr]; decide), if_neg hL2, if_pos h44]
          refine j_aload_n h (q := 6) 0 dX3_findFault_5 rfl rfl ?_
          refine j_cV h (q := 9) (C := RX3) (T := TX3) (N := 17) (ci := 3) mo_X3_readsStep mI_X3_readsStep mV_X3_readsStep mL_X3_195 (m_readsStep g w M P ha (by omega)) (by decide) (by decide) (mw_0 _ _ _) rfl rfl rfl (Nat.le_of_ble_eq_true rfl) dX3_findFault_6 rfl ?_
          rintro _ w6 ⟨x6, rfl, e⟩
          obtain ⟨rfl, fi, se, rfl, -⟩ := e
          rw [hr]
          refine j_if_ne h (tgt := 17) (q := 12) dX3_findFault_9 rfl (by decide) (fun c_9 => ?_) (fun c_9 => ?_)
          rotate_left
          · exact absurd (show b2i true = 0 from c_9) (by decide)
          refine j_aload_n h (q := 18) 0 dX3_findFault_17 rfl rfl ?_
          refine j_get h (q := 21) inX3 (C := RX3) (T := TX3) (N := 17) (ci := 3) rfl 13 (by decide) mF_X3_171 (by decide) (mw_0 _ _ _) rfl dX3_findFault_18 rfl ?_
          refine j_aload_n h (q := 22) 0 dX3_findFault_21 rfl rfl ?_
          refine j_get h (q := 25) inX3 (C := RX3) (T := TX3) (N := 17) (ci := 3) rfl 7 (by decide) mF_X3_163 (by decide) (mw_0 _ _ _) rfl dX3_findFault_22 rfl ?_
          refine j_icmp_ne h (tgt := 31) (q := 28) dX3_findFault_25 rfl (by decide) (fun c_25 => ?_) (fun c_25 => ?_)
          rotate_left
          · rw [P.1, nI_eqS (by omega) (by omega)] at c_25; exact absurd c_25 hL2
          refine j_aload_n h (q := 32) 0 dX3_findFault_31 rfl rfl ?_
          refine j_bipush h (q := 34) (44) dX3_findFault_32 rfl (by decide) ?_
          refine j_cV h (q := 37) (C := RX3) (T := TX3) (N := 17) (ci := 3) mo_X3_isNext mI_X3_isNext mV_X3_isNext mL_X3_183 (m_isNext g w _ (by exact P) (i := (rsG L ch i).2) (by rfl) (by omega) (k := 44) (by decide) (by decide)) (by decide) (by decide) (mw_0 _ _ _) rfl rfl rfl (Nat.le_of_ble_eq_true rfl) dX3_findFault_34 rfl ?_
          rintro _ w34 ⟨x34, rfl, e⟩
          obtain ⟨e1, rfl⟩ := e
          obtain rfl : x34 = 0 := e1.trans (b2i_f (beq_eq_false_iff_ne.mpr h44)).symm
          rw [if_neg h44]
          refine j_if_ne h (tgt := 5) (q := 40) dX3_findFault_37 rfl (by decide) (fun c_37 => ?_) (fun c_37 => ?_)
          · exact absurd (show (0 : Int32) = 0 from rfl) c_37
          refine j_aload_n h (q := 41) 0 dX3_findFault_40 rfl rfl ?_
          refine j_get h (q := 44) inX3 (C := RX3) (T := TX3) (N := 17) (ci := 3) rfl 13 (by decide) mF_X3_171 (by decide) (mw_0 _ _ _) rfl dX3_findFault_41 rfl ?_
          refine j_iret h rfl dX3_findFault_44 ?_
          exact kk (mat (rsM M (nI (rsG L ch i).2) (ctI L ch i) fi se) (nI (rsG L ch i).2)) hK hS _ (by rw [hf]; rfl)

set_option maxRecDepth 100000 in
set_option maxHeartbeats 4000000 in
theorem m_findFault (g : jG) (w : jW) (M : Ms) {L : Nat} {ch : Nat → Nat} (P : MD M L ch)  : ConI g 5 yX3_findFault cX3_findFault 1 (some (.int)) [.ref (gr g 67)] (mw g w M) (fun x w' => x = ov (faultG L ch) ∧ ∃ M', w' = mw g w M' ∧ KE M M' ∧ Mst M' = Mst M) := by
  refine con_of (by decide +kernel) (Nat.le_of_ble_eq_true rfl) [(0, _)] rfl (fun K h => ?_)
  refine j_aload_n h (q := 1) 0 dX3_findFault_0 rfl rfl ?_
  refine j_iconst h (q := 2) (0) dX3_findFault_1 rfl (by decide) ?_
  refine j_put h (q := 5) inX3 (C := RX3) (T := TX3) (N := 17) (ci := 3) rfl tyX3_ok nmX3 13 (by decide) mF_X3_171 rfl rfl rfl (by first | rfl | decide) (by decide) (mw_0 _ _ _) (Nat.le_of_ble_eq_true rfl) dX3_findFault_2 rfl ?_
  refine j_stk rfl mw_u0 ?_
  exact lp_faultM g w M h (L + 1) 0 (mat M 0) P rfl (Nat.zero_le _) (by omega) ⟨rfl, rfl, rfl, rfl, rfl, rfl, rfl⟩ rfl (fun M' k1 k2 x hx => ⟨_, rfl, hx, M', rfl, k1, k2⟩)

set_option maxRecDepth 100000 in
set_option maxHeartbeats 4000000 in
theorem M_fault (g : jG) (w : jW) (M : Ms) (σ : Sg) (S : SI σ) (R : MX M σ)  : ConI g 6 yX3_fault cX3_fault 1 (some (.int)) [.ref (gr g 67)] (mw g w M) (fun x w' => x = ov (faultG (zl σ) (zc σ)) ∧ ∃ M', w' = mw g w M' ∧ MX M' σ) := by
  refine con_of (by decide +kernel) (Nat.le_of_ble_eq_true rfl) [(0, _)] rfl (fun K h => ?_)
  refine j_aload_n h (q := 1) 0 dX3_fault_0 rfl rfl ?_
  refine j_cV h (q := 4) (C := RX3) (T := TX3) (N := 17) (ci := 3) mo_X3_findFault mI_X3_findFault mV_X3_findFault mL_X3_199 (m_findFault g w M (MX_MD S R)) (by decide) (by decide) (mw_0 _ _ _) rfl rfl rfl (Nat.le_of_ble_eq_true rfl) dX3_fault_1 rfl ?_
  rintro _ w1 ⟨x1, rfl, e⟩
  obtain ⟨rfl, M2, rfl, k1, k2⟩ := e
  refine j_iret h rfl dX3_fault_4 ?_
  exact ⟨_, rfl, rfl, _, rfl, MX_eq R k1 k2⟩
