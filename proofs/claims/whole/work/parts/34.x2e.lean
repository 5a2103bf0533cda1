set_option maxRecDepth 100000 in
set_option maxHeartbeats 4000000 in
theorem X_pile (g : jG) (w : jW) (X : Xs) (σ : Sg) (S : SI σ) (R : XR X σ) (a b : Int32)  : ConI g 3 yX2_pile cX2_pile 3 (some (.int)) [.ref (gr g 0), .int a, .int b] (xw g w X) (fun x w' => x = spPile (zg σ) a b ∧ ∃ X', w' = xw g w X' ∧ XR X' σ) := by
  refine con_of (by decide +kernel) (Nat.le_of_ble_eq_true rfl) [(0, _), (1, _), (2, _)] rfl (fun K h => ?_)
  by_cases ha : inn 22 a
  · obtain ⟨k, hk, rfl, hvk⟩ := inn_of (by decide) ha
    have hs : spPile (zg σ) (nI k) b = (if b = 0 then nI (qn (zg σ) k) else if b = 1 then ov (topO (zg σ) k) else if b = 2 then nI (frzG (zg σ) k) else -2) := by unfold spPile; rw [if_pos ha, hvk]
    refine j_iload_n h (q := 1) 1 dX2_pile_0 rfl rfl ?_
    refine j_cS h (q := 4) mo_X2_isPile mS_X2_isPile mL_X2_59 (c_X2_isPile g _ _) (by decide) rfl rfl (Nat.le_of_ble_eq_true rfl) dX2_pile_1 rfl ?_
    rintro _ w1 ⟨x1, rfl, e⟩
    obtain ⟨e1, rfl⟩ := e
    obtain rfl : x1 = 1 := e1.trans (b2i_dt (show ¬ (nI k) < 0 ∧ (nI k) < 22 from ha)).symm
    refine j_if_ne h (tgt := 9) (q := 7) dX2_pile_4 rfl (by decide) (fun c_4 => ?_) (fun c_4 => ?_)
    rotate_left
    · exact absurd (show (1 : Int32) = 0 from c_4) (by decide)
    refine j_iload_n h (q := 10) 2 dX2_pile_9 rfl rfl ?_
    by_cases hsw10 : (b).toInt < 0 ∨ 2 < (b).toInt
    · refine j_tableOut h (tgt := 63) dX2_pile_10 hsw10 (by decide) ?_
      refine j_bipush h (q := 65) (-2) dX2_pile_63 rfl (by decide) ?_
      refine j_iret h rfl dX2_pile_65 ?_
      exact ⟨_, rfl, by rw [hs, if_neg (show ¬ b = 0 from sw_out (n := 2) (k := 0) hsw10 (by decide) (by decide)), if_neg (show ¬ b = 1 from sw_out (n := 2) (k := 1) hsw10 (by decide) (by decide)), if_neg (show ¬ b = 2 from sw_out (n := 2) (k := 2) hsw10 (by decide) (by decide))], X, rfl, R⟩
    by_cases hs10_0 : b = 0
    · subst hs10_0
      refine j_tableIn h (tgt := 36) dX2_pile_10 (by decide) (by decide) rfl (by decide) ?_
      refine j_aload_n h (q := 37) 0 dX2_pile_36 rfl rfl ?_
      refine j_get h (q := 40) inX2 (C := RX2) (T := TX2) (N := 9) (ci := 2) rfl 0 (by decide) mF_X2_10 (by decide) (xw_0 _ _ _) rfl dX2_pile_37 rfl ?_
      refine j_iload_n h (q := 41) 1 dX2_pile_40 rfl rfl ?_
      refine j_cV h (q := 44) (C := RX1) (T := TX1) (N := 9) (ci := 1) mo_X1_sizeOf mI_X1_sizeOf mV_X1_sizeOf mL_X2_107 (xw_con (i := 0) (by decide) (c_size g _ _ (by decide) (xtab X (7 + 6 * 0)) (zg σ) R.1 rfl hk)) (by decide) (by decide) (xw_r g _ _ (i := 0) (by decide)) rfl rfl rfl (Nat.le_of_ble_eq_true rfl) dX2_pile_41 rfl ?_
      rintro _ w41 ⟨x41, rfl, e⟩
      obtain ⟨rfl, rfl⟩ := e
      rw [xw_tab g w _ (show 0 < 10 by decide)]
      refine j_iret h rfl dX2_pile_44 ?_
      exact ⟨_, rfl, by rw [hs]; simp, X, rfl, R⟩
    by_cases hs10_1 : b = 1
    · subst hs10_1
      refine j_tableIn h (tgt := 45) dX2_pile_10 (by decide) (by decide) rfl (by decide) ?_
      refine j_aload_n h (q := 46) 0 dX2_pile_45 rfl rfl ?_
      refine j_get h (q := 49) inX2 (C := RX2) (T := TX2) (N := 9) (ci := 2) rfl 0 (by decide) mF_X2_10 (by decide) (xw_0 _ _ _) rfl dX2_pile_46 rfl ?_
      refine j_iload_n h (q := 50) 1 dX2_pile_49 rfl rfl ?_
      refine j_cV h (q := 53) (C := RX1) (T := TX1) (N := 9) (ci := 1) mo_X1_topOf mI_X1_topOf mV_X1_topOf mL_X2_55 (xw_con (i := 0) (by decide) (c_top g _ _ (by decide) (xtab X (7 + 6 * 0)) (zg σ) R.1 S.1 rfl hk)) (by decide) (by decide) (xw_r g _ _ (i := 0) (by decide)) rfl rfl rfl (Nat.le_of_ble_eq_true rfl) dX2_pile_50 rfl ?_
      rintro _ w50 ⟨x50, rfl, e⟩
      obtain ⟨rfl, rfl⟩ := e
      rw [xw_tab g w _ (show 0 < 10 by decide)]
      refine j_iret h rfl dX2_pile_53 ?_
      exact ⟨_, rfl, by rw [hs]; simp, X, rfl, R⟩
    have hs10_2 : b = 2 := sw_last3 (b) hsw10 hs10_0 hs10_1
    subst hs10_2
    refine j_tableIn h (tgt := 54) dX2_pile_10 (by decide) (by decide) rfl (by decide) ?_
    refine j_aload_n h (q := 55) 0 dX2_pile_54 rfl rfl ?_
    refine j_get h (q := 58) inX2 (C := RX2) (T := TX2) (N := 9) (ci := 2) rfl 0 (by decide) mF_X2_10 (by decide) (xw_0 _ _ _) rfl dX2_pile_55 rfl ?_
    refine j_iload_n h (q := 59) 1 dX2_pile_58 rfl rfl ?_
    refine j_cV h (q := 62) (C := RX1) (T := TX1) (N := 9) (ci := 1) mo_X1_frozenFor mI_X1_frozenFor mV_X1_frozenFor mL_X2_110 (xw_con (i := 0) (by decide) (c_frozenFor g _ _ (by decide) (xtab X (7 + 6 * 0)) (zg σ) R.1 S.1 rfl hk)) (by decide) (by decide) (xw_r g _ _ (i := 0) (by decide)) rfl rfl rfl (Nat.le_of_ble_eq_true rfl) dX2_pile_59 rfl ?_
    rintro _ w59 ⟨x59, rfl, e⟩
    obtain ⟨rfl, rfl⟩ := e
    rw [xw_tab g w _ (show 0 < 10 by decide)]
    refine j_iret h rfl dX2_pile_62 ?_
    exact ⟨_, rfl, by rw [hs]; simp, X, rfl, R⟩
  · have hs : spPile (zg σ) a b = -1 := if_neg ha
    refine j_iload_n h (q := 1) 1 dX2_pile_0 rfl rfl ?_
    refine j_cS h (q := 4) mo_X2_isPile mS_X2_isPile mL_X2_59 (c_X2_isPile g _ _) (by decide) rfl rfl (Nat.le_of_ble_eq_true rfl) dX2_pile_1 rfl ?_
    rintro _ w1 ⟨x1, rfl, e⟩
    obtain ⟨e1, rfl⟩ := e
    obtain rfl : x1 = 0 := e1.trans (b2i_df (show ¬ (¬ a < 0 ∧ a < 22) from ha)).symm
    refine j_if_ne h (tgt := 9) (q := 7) dX2_pile_4 rfl (by decide) (fun c_4 => ?_) (fun c_4 => ?_)
    · exact absurd (show (0 : Int32) = 0 from rfl) c_4
    refine j_iconst h (q := 8) (-1) dX2_pile_7 rfl (by decide) ?_
    refine j_iret h rfl dX2_pile_8 ?_
    exact ⟨_, rfl, by first | (rw [hs]; done) | (rw [hs]; rfl), X, rfl, R⟩

set_option maxRecDepth 100000 in
set_option maxHeartbeats 4000000 in
theorem X_card (g : jG) (w : jW) (X : Xs) (σ : Sg) (S : SI σ) (R : XR X σ) (a b : Int32)  : ConI g 2 yX2_card cX2_card 3 (some (.int)) [.ref (gr g 0), .int a, .int b] (xw g w X) (fun x w' => x = spCard (zg σ) a b ∧ ∃ X', w' = xw g w X' ∧ XR X' σ) := by
  refine con_of (by decide +kernel) (Nat.le_of_ble_eq_true rfl) [(0, _), (1, _), (2, _)] rfl (fun K h => ?_)
  by_cases ha : inn 22 a
  · obtain ⟨k, hk, rfl, hvk⟩ := inn_of (by decide) ha
    have hn := G_n2 S.1 hk
    by_cases hb : inn (qn (zg σ) k) b
    · obtain ⟨i, hi, rfl, hvi⟩ := inn_of (by omega) hb
      have hs : spCard (zg σ) (nI k) (nI i) = nI (qc (zg σ) k i) := by unfold spCard; rw [if_pos ha, hvk, if_pos hb, hvi]
      refine j_iload_n h (q := 1) 1 dX2_card_0 rfl rfl ?_
      refine j_cS h (q := 4) mo_X2_isPile mS_X2_isPile mL_X2_59 (c_X2_isPile g _ _) (by decide) rfl rfl (Nat.le_of_ble_eq_true rfl) dX2_card_1 rfl ?_
      rintro _ w1 ⟨x1, rfl, e⟩
      obtain ⟨e1, rfl⟩ := e
      obtain rfl : x1 = 1 := e1.trans (b2i_dt (show ¬ (nI k) < 0 ∧ (nI k) < 22 from ha)).symm
      refine j_if_eq h (tgt := 22) (q := 7) dX2_card_4 rfl (by decide) (fun c_4 => ?_) (fun c_4 => ?_)
      · exact absurd (show (1 : Int32) = 0 from c_4) (by decide)
      refine j_iload_n h (q := 8) 2 dX2_card_7 rfl rfl ?_
      refine j_aload_n h (q := 9) 0 dX2_card_8 rfl rfl ?_
      refine j_get h (q := 12) inX2 (C := RX2) (T := TX2) (N := 9) (ci := 2) rfl 0 (by decide) mF_X2_10 (by decide) (xw_0 _ _ _) rfl dX2_card_9 rfl ?_
      refine j_iload_n h (q := 13) 1 dX2_card_12 rfl rfl ?_
      refine j_cV h (q := 16) (C := RX1) (T := TX1) (N := 9) (ci := 1) mo_X1_sizeOf mI_X1_sizeOf mV_X1_sizeOf mL_X2_107 (xw_con (i := 0) (by decide) (c_size g _ _ (by decide) (xtab X (7 + 6 * 0)) (zg σ) R.1 rfl hk)) (by decide) (by decide) (xw_r g _ _ (i := 0) (by decide)) rfl rfl rfl (Nat.le_of_ble_eq_true rfl) dX2_card_13 rfl ?_
      rintro _ w13 ⟨x13, rfl, e⟩
      obtain ⟨rfl, rfl⟩ := e
      rw [xw_tab g w _ (show 0 < 10 by decide)]
      refine j_cS h (q := 19) mo_X2_isBelow mS_X2_isBelow mL_X2_79 (c_X2_isBelow g _ _ _) (by decide) rfl rfl (Nat.le_of_ble_eq_true rfl) dX2_card_16 rfl ?_
      rintro _ w16 ⟨x16, rfl, e⟩
      obtain ⟨e1, rfl⟩ := e
      obtain rfl : x16 = 1 := e1.trans (b2i_dt hb).symm
      refine j_if_ne h (tgt := 24) (q := 22) dX2_card_19 rfl (by decide) (fun c_19 => ?_) (fun c_19 => ?_)
      rotate_left
      · exact absurd (show (1 : Int32) = 0 from c_19) (by decide)
      refine j_aload_n h (q := 25) 0 dX2_card_24 rfl rfl ?_
      refine j_get h (q := 28) inX2 (C := RX2) (T := TX2) (N := 9) (ci := 2) rfl 0 (by decide) mF_X2_10 (by decide) (xw_0 _ _ _) rfl dX2_card_25 rfl ?_
      refine j_iload_n h (q := 29) 1 dX2_card_28 rfl rfl ?_
      refine j_iload_n h (q := 30) 2 dX2_card_29 rfl rfl ?_
      refine j_cV h (q := 33) (C := RX1) (T := TX1) (N := 9) (ci := 1) mo_X1_cardIn mI_X1_cardIn mV_X1_cardIn mL_X2_113 (xw_con (i := 0) (by decide) (c_X1_cardIn g _ _ (by decide) (xtab X (7 + 6 * 0)) rfl hk rfl (by have := G_f S.1 hk; omega))) (by decide) (by decide) (xw_r g _ _ (i := 0) (by decide)) rfl rfl rfl (Nat.le_of_ble_eq_true rfl) dX2_card_30 rfl ?_
      rintro _ w30 ⟨x30, rfl, e⟩
      obtain ⟨rfl, rfl⟩ := e
      rw [xw_tab g w _ (show 0 < 10 by decide), show Tcd (xtab X (7 + 6 * 0)) (fpv k + i) = nI (qc (zg σ) k i) from R_cd R.1 hk hi]
      refine j_iret h rfl dX2_card_33 ?_
      exact ⟨_, rfl, by first | (rw [hs]; done) | (rw [hs]; rfl), X, rfl, R⟩
    · have hs : spCard (zg σ) (nI k) b = -1 := by unfold spCard; rw [if_pos ha, hvk, if_neg hb]
      refine j_iload_n h (q := 1) 1 dX2_card_0 rfl rfl ?_
      refine j_cS h (q := 4) mo_X2_isPile mS_X2_isPile mL_X2_59 (c_X2_isPile g _ _) (by decide) rfl rfl (Nat.le_of_ble_eq_true rfl) dX2_card_1 rfl ?_
      rintro _ w1 ⟨x1, rfl, e⟩
      obtain ⟨e1, rfl⟩ := e
      obtain rfl : x1 = 1 := e1.trans (b2i_dt (show ¬ (nI k) < 0 ∧ (nI k) < 22 from ha)).symm
      refine j_if_eq h (tgt := 22) (q := 7) dX2_card_4 rfl (by decide) (fun c_4 => ?_) (fun c_4 => ?_)
      · exact absurd (show (1 : Int32) = 0 from c_4) (by decide)
      refine j_iload_n h (q := 8) 2 dX2_card_7 rfl rfl ?_
      refine j_aload_n h (q := 9) 0 dX2_card_8 rfl rfl ?_
      refine j_get h (q := 12) inX2 (C := RX2) (T := TX2) (N := 9) (ci := 2) rfl 0 (by decide) mF_X2_10 (by decide) (xw_0 _ _ _) rfl dX2_card_9 rfl ?_
      refine j_iload_n h (q := 13) 1 dX2_card_12 rfl rfl ?_
      refine j_cV h (q := 16) (C := RX1) (T := TX1) (N := 9) (ci := 1) mo_X1_sizeOf mI_X1_sizeOf mV_X1_sizeOf mL_X2_107 (xw_con (i := 0) (by decide) (c_size g _ _ (by decide) (xtab X (7 + 6 * 0)) (zg σ) R.1 rfl hk)) (by decide) (by decide) (xw_r g _ _ (i := 0) (by decide)) rfl rfl rfl (Nat.le_of_ble_eq_true rfl) dX2_card_13 rfl ?_
      rintro _ w13 ⟨x13, rfl, e⟩
      obtain ⟨rfl, rfl⟩ := e
      rw [xw_tab g w _ (show 0 < 10 by decide)]
      refine j_cS h (q := 19) mo_X2_isBelow mS_X2_isBelow mL_X2_79 (c_X2_isBelow g _ _ _) (by decide) rfl rfl (Nat.le_of_ble_eq_true rfl) dX2_card_16 rfl ?_
      rintro _ w16 ⟨x16, rfl, e⟩
      obtain ⟨e1, rfl⟩ := e
      obtain rfl : x16 = 0 := e1.trans (b2i_df hb).symm
      refine j_if_ne h (tgt := 24) (q := 22) dX2_card_19 rfl (by decide) (fun c_19 => ?_) (fun c_19 => ?_)
      · exact absurd (show (0 : Int32) = 0 from rfl) c_19
      refine j_iconst h (q := 23) (-1) dX2_card_22 rfl (by decide) ?_
      refine j_iret h rfl dX2_card_23 ?_
      exact ⟨_, rfl, by first | (rw [hs]; done) | (rw [hs]; rfl), X, rfl, R⟩
  · have hs : spCard (zg σ) a b = -1 := if_neg ha
    refine j_iload_n h (q := 1) 1 dX2_card_0 rfl rfl ?_
    refine j_cS h (q := 4) mo_X2_isPile mS_X2_isPile mL_X2_59 (c_X2_isPile g _ _) (by decide) rfl rfl (Nat.le_of_ble_eq_true rfl) dX2_card_1 rfl ?_
    rintro _ w1 ⟨x1, rfl, e⟩
    obtain ⟨e1, rfl⟩ := e
    obtain rfl : x1 = 0 := e1.trans (b2i_df (show ¬ (¬ a < 0 ∧ a < 22) from ha)).symm
    refine j_if_eq h (tgt := 22) (q := 7) dX2_card_4 rfl (by decide) (fun c_4 => ?_) (fun c_4 => ?_)
    rotate_left
    · exact absurd (show (0 : Int32) = 0 from rfl) c_4
    refine j_iconst h (q := 23) (-1) dX2_card_22 rfl (by decide) ?_
    refine j_iret h rfl dX2_card_23 ?_
    exact ⟨_, rfl, by first | (rw [hs]; done) | (rw [hs]; rfl), X, rfl, R⟩

set_option maxRecDepth 100000 in
set_option maxHeartbeats 4000000 in
theorem X_where (g : jG) (w : jW) (X : Xs) (σ : Sg) (S : SI σ) (R : XR X σ) (a b : Int32) {p0 i0 : Nat} (hl : inn 104 a → p0 < 22 ∧ i0 < qn (zg σ) p0 ∧ qc (zg σ) p0 i0 = vv a)  : ConI g 4 yX2_where cX2_where 3 (some (.int)) [.ref (gr g 0), .int a, .int b] (xw g w X) (fun x w' => x = spWhere p0 i0 a b ∧ ∃ X', w' = xw g w X' ∧ XR X' σ) := by
  refine con_of (by decide +kernel) (Nat.le_of_ble_eq_true rfl) [(0, _), (1, _), (2, _)] rfl (fun K h => ?_)
  by_cases ha : inn 104 a
  · obtain ⟨hp, hi, hq⟩ := hl ha
    obtain ⟨k, hk, rfl, hvk⟩ := inn_of (by decide) ha
    rw [hvk] at hq
    by_cases h0 : b = 0
    · subst h0
      have hs : spWhere p0 i0 (nI k) 0 = nI p0 := by unfold spWhere; rw [if_pos ha, if_pos rfl]
      refine j_iload_n h (q := 1) 1 dX2_where_0 rfl rfl ?_
      refine j_bipush h (q := 3) (104) dX2_where_1 rfl (by decide) ?_
      refine j_cS h (q := 6) mo_X2_isBelow mS_X2_isBelow mL_X2_79 (c_X2_isBelow g _ _ _) (by decide) rfl rfl (Nat.le_of_ble_eq_true rfl) dX2_where_3 rfl ?_
      rintro _ w3 ⟨x3, rfl, e⟩
      obtain ⟨e1, rfl⟩ := e
      obtain rfl : x3 = 1 := e1.trans (b2i_dt (show ¬ (nI k) < 0 ∧ (nI k) < 104 from ha)).symm
      refine j_if_ne h (tgt := 11) (q := 9) dX2_where_6 rfl (by decide) (fun c_6 => ?_) (fun c_6 => ?_)
      rotate_left
      · exact absurd (show (1 : Int32) = 0 from c_6) (by decide)
      refine j_iload_n h (q := 12) 2 dX2_where_11 rfl rfl ?_
      refine j_lookup h (off := 28) (tgt := 40) dX2_where_12 (by decide) (by decide) (by decide) ?_
      refine j_aload_n h (q := 41) 0 dX2_where_40 rfl rfl ?_
      refine j_get h (q := 44) inX2 (C := RX2) (T := TX2) (N := 9) (ci := 2) rfl 0 (by decide) mF_X2_10 (by decide) (xw_0 _ _ _) rfl dX2_where_41 rfl ?_
      refine j_iload_n h (q := 45) 1 dX2_where_44 rfl rfl ?_
      refine j_cV h (q := 48) (C := RX1) (T := TX1) (N := 9) (ci := 1) mo_X1_pileWith mI_X1_pileWith mV_X1_pileWith mL_X2_116 (xw_con (i := 0) (by decide) (c_pileWith g _ _ (by decide) (xtab X (7 + 6 * 0)) (zg σ) R.1 S.1 (k := k) hp hi hq)) (by decide) (by decide) (xw_r g _ _ (i := 0) (by decide)) rfl rfl rfl (Nat.le_of_ble_eq_true rfl) dX2_where_45 rfl ?_
      rintro _ w45 ⟨x45, rfl, e⟩
      obtain ⟨rfl, rfl⟩ := e
      rw [xw_tab g w _ (show 0 < 10 by decide)]
      refine j_iret h rfl dX2_where_48 ?_
      exact ⟨_, rfl, by first | (rw [hs]; done) | (rw [hs]; rfl), X, rfl, R⟩
    · by_cases h1 : b = 1
      · subst h1
        have hs : spWhere p0 i0 (nI k) 1 = nI i0 := by unfold spWhere; rw [if_pos ha, if_neg (by decide), if_pos rfl]
        refine j_iload_n h (q := 1) 1 dX2_where_0 rfl rfl ?_
        refine j_bipush h (q := 3) (104) dX2_where_1 rfl (by decide) ?_
        refine j_cS h (q := 6) mo_X2_isBelow mS_X2_isBelow mL_X2_79 (c_X2_isBelow g _ _ _) (by decide) rfl rfl (Nat.le_of_ble_eq_true rfl) dX2_where_3 rfl ?_
        rintro _ w3 ⟨x3, rfl, e⟩
        obtain ⟨e1, rfl⟩ := e
        obtain rfl : x3 = 1 := e1.trans (b2i_dt (show ¬ (nI k) < 0 ∧ (nI k) < 104 from ha)).symm
        refine j_if_ne h (tgt := 11) (q := 9) dX2_where_6 rfl (by decide) (fun c_6 => ?_) (fun c_6 => ?_)
        rotate_left
        · exact absurd (show (1 : Int32) = 0 from c_6) (by decide)
        refine j_iload_n h (q := 12) 2 dX2_where_11 rfl rfl ?_
        refine j_lookup h (off := 37) (tgt := 49) dX2_where_12 (by decide) (by decide) (by decide) ?_
        refine j_aload_n h (q := 50) 0 dX2_where_49 rfl rfl ?_
        refine j_get h (q := 53) inX2 (C := RX2) (T := TX2) (N := 9) (ci := 2) rfl 0 (by decide) mF_X2_10 (by decide) (xw_0 _ _ _) rfl dX2_where_50 rfl ?_
        refine j_aload_n h (q := 54) 0 dX2_where_53 rfl rfl ?_
        refine j_get h (q := 57) inX2 (C := RX2) (T := TX2) (N := 9) (ci := 2) rfl 0 (by decide) mF_X2_10 (by decide) (xw_0 _ _ _) rfl dX2_where_54 rfl ?_
        refine j_iload_n h (q := 58) 1 dX2_where_57 rfl rfl ?_
        refine j_cV h (q := 61) (C := RX1) (T := TX1) (N := 9) (ci := 1) mo_X1_pileWith mI_X1_pileWith mV_X1_pileWith mL_X2_116 (xw_con (i := 0) (by decide) (c_pileWith g _ _ (by decide) (xtab X (7 + 6 * 0)) (zg σ) R.1 S.1 (k := k) hp hi hq)) (by decide) (by decide) (xw_r g _ _ (i := 0) (by decide)) rfl rfl rfl (Nat.le_of_ble_eq_true rfl) dX2_where_58 rfl ?_
        rintro _ w58 ⟨x58, rfl, e⟩
        obtain ⟨rfl, rfl⟩ := e
        rw [xw_tab g w _ (show 0 < 10 by decide)]
        refine j_iload_n h (q := 62) 1 dX2_where_61 rfl rfl ?_
        refine j_cV h (q := 65) (C := RX1) (T := TX1) (N := 9) (ci := 1) mo_X1_placeIn mI_X1_placeIn mV_X1_placeIn mL_X2_119 (xw_con (i := 0) (by decide) (c_placeIn g _ _ (by decide) (xtab X (7 + 6 * 0)) (zg σ) R.1 S.1 hp hk (r := some i0) ⟨hi, hq⟩ rfl)) (by decide) (by decide) (xw_r g _ _ (i := 0) (by decide)) rfl rfl rfl (Nat.le_of_ble_eq_true rfl) dX2_where_62 rfl ?_
        rintro _ w62 ⟨x62, rfl, e⟩
        obtain ⟨rfl, rfl⟩ := e
        rw [xw_tab g w _ (show 0 < 10 by decide)]
        refine j_iret h rfl dX2_where_65 ?_
        exact ⟨_, rfl, by first | (rw [hs]; done) | (rw [hs]; rfl), X, rfl, R⟩
      · have hs : spWhere p0 i0 (nI k) b = -2 := by unfold spWhere; rw [if_pos ha, if_neg h0, if_neg h1]
        refine j_iload_n h (q := 1) 1 dX2_where_0 rfl rfl ?_
        refine j_bipush h (q := 3) (104) dX2_where_1 rfl (by decide) ?_
        refine j_cS h (q := 6) mo_X2_isBelow mS_X2_isBelow mL_X2_79 (c_X2_isBelow g _ _ _) (by decide) rfl rfl (Nat.le_of_ble_eq_true rfl) dX2_where_3 rfl ?_
        rintro _ w3 ⟨x3, rfl, e⟩
        obtain ⟨e1, rfl⟩ := e
        obtain rfl : x3 = 1 := e1.trans (b2i_dt (show ¬ (nI k) < 0 ∧ (nI k) < 104 from ha)).symm
        refine j_if_ne h (tgt := 11) (q := 9) dX2_where_6 rfl (by decide) (fun c_6 => ?_) (fun c_6 => ?_)
        rotate_left
        · exact absurd (show (1 : Int32) = 0 from c_6) (by decide)
        refine j_iload_n h (q := 12) 2 dX2_where_11 rfl rfl ?_
        refine j_lookup h (off := 54) (tgt := 66) dX2_where_12 (by decide) ((lv_osw h0 rfl).trans ((lv_osw h1 (by decide)).trans rfl)) (by decide) ?_
        refine j_bipush h (q := 68) (-2) dX2_where_66 rfl (by decide) ?_
        refine j_iret h rfl dX2_where_68 ?_
        exact ⟨_, rfl, by first | (rw [hs]; done) | (rw [hs]; rfl), X, rfl, R⟩
  · have hs : spWhere p0 i0 a b = -1 := if_neg ha
    refine j_iload_n h (q := 1) 1 dX2_where_0 rfl rfl ?_
    refine j_bipush h (q := 3) (104) dX2_where_1 rfl (by decide) ?_
    refine j_cS h (q := 6) mo_X2_isBelow mS_X2_isBelow mL_X2_79 (c_X2_isBelow g _ _ _) (by decide) rfl rfl (Nat.le_of_ble_eq_true rfl) dX2_where_3 rfl ?_
    rintro _ w3 ⟨x3, rfl, e⟩
    obtain ⟨e1, rfl⟩ := e
    obtain rfl : x3 = 0 := e1.trans (b2i_df (show ¬ (¬ a < 0 ∧ a < 104) from ha)).symm
    refine j_if_ne h (tgt := 11) (q := 9) dX2_where_6 rfl (by decide) (fun c_6 => ?_) (fun c_6 => ?_)
    · exact absurd (show (0 : Int32) = 0 from rfl) c_6
    refine j_iconst h (q := 10) (-1) dX2_where_9 rfl (by decide) ?_
    refine j_iret h rfl dX2_where_10 ?_
    exact ⟨_, rfl, by first | (rw [hs]; done) | (rw [hs]; rfl), X, rfl, R⟩

set_option maxRecDepth 100000 in
set_option maxHeartbeats 4000000 in
theorem X_side (g : jG) (w : jW) (X : Xs) (σ : Sg) (S : SI σ) (R : XR X σ) (a b : Int32)  : ConI g 3 yX2_side cX2_side 3 (some (.int)) [.ref (gr g 0), .int a, .int b] (xw g w X) (fun x w' => x = spSide (zg σ) a b ∧ ∃ X', w' = xw g w X' ∧ XR X' σ) := by
  refine con_of (by decide +kernel) (Nat.le_of_ble_eq_true rfl) [(0, _), (1, _), (2, _)] rfl (fun K h => ?_)
  by_cases ha : inn 2 a
  · obtain ⟨k, hk, rfl, hvk⟩ := inn_of (by decide) ha
    have hs : spSide (zg σ) (nI k) b = (if b = 0 then qp (zg σ) k else if b = 1 then nI (qf (zg σ) k) else if b = 2 then nI (leftG (qn (zg σ)) k) else if b = 3 then nI (longG (zg σ) k 4) else -2) := by unfold spSide; rw [if_pos ha, hvk]
    refine j_iload_n h (q := 1) 1 dX2_side_0 rfl rfl ?_
    refine j_iconst h (q := 2) (2) dX2_side_1 rfl (by decide) ?_
    refine j_cS h (q := 5) mo_X2_isBelow mS_X2_isBelow mL_X2_79 (c_X2_isBelow g _ _ _) (by decide) rfl rfl (Nat.le_of_ble_eq_true rfl) dX2_side_2 rfl ?_
    rintro _ w2 ⟨x2, rfl, e⟩
    obtain ⟨e1, rfl⟩ := e
    obtain rfl : x2 = 1 := e1.trans (b2i_dt (show ¬ (nI k) < 0 ∧ (nI k) < 2 from ha)).symm
    refine j_if_ne h (tgt := 11) (q := 8) dX2_side_5 rfl (by decide) (fun c_5 => ?_) (fun c_5 => ?_)
    rotate_left
    · exact absurd (show (1 : Int32) = 0 from c_5) (by decide)
    refine j_iload_n h (q := 12) 2 dX2_side_11 rfl rfl ?_
    by_cases hsw12 : (b).toInt < 0 ∨ 3 < (b).toInt
    · refine j_tableOut h (tgt := 86) dX2_side_12 hsw12 (by decide) ?_
      refine j_bipush h (q := 88) (-2) dX2_side_86 rfl (by decide) ?_
      refine j_iret h rfl dX2_side_88 ?_
      exact ⟨_, rfl, by rw [hs, if_neg (show ¬ b = 0 from sw_out (n := 3) (k := 0) hsw12 (by decide) (by decide)), if_neg (show ¬ b = 1 from sw_out (n := 3) (k := 1) hsw12 (by decide) (by decide)), if_neg (show ¬ b = 2 from sw_out (n := 3) (k := 2) hsw12 (by decide) (by decide)), if_neg (show ¬ b = 3 from sw_out (n := 3) (k := 3) hsw12 (by decide) (by decide))], X, rfl, R⟩
    by_cases hs12_0 : b = 0
    · subst hs12_0
      refine j_tableIn h (tgt := 44) dX2_side_12 (by decide) (by decide) rfl (by decide) ?_
      refine j_aload_n h (q := 45) 0 dX2_side_44 rfl rfl ?_
      refine j_get h (q := 48) inX2 (C := RX2) (T := TX2) (N := 9) (ci := 2) rfl 0 (by decide) mF_X2_10 (by decide) (xw_0 _ _ _) rfl dX2_side_45 rfl ?_
      refine j_get h (q := 51) inX1 (C := RX1) (T := TX1) (N := 9) (ci := 1) rfl 2 (by decide) mF_X2_122 (by decide) (xw_r g _ _ (i := 0) (by decide)) rfl dX2_side_48 rfl ?_
      refine j_iload_n h (q := 52) 1 dX2_side_51 rfl rfl ?_
      refine j_cS h (q := 55) mo_X2_at mS_X2_at mL_X2_125 (c_X2_at g _ (z := 7 + 6 * 0 + 3) (n := 2) (by decide) (show xw g w X (7 + 6 * 0 + 3) = _ from (xw_t g w X (i := 0) (by decide) (k := 3) (by decide))) (by decide) _) (by decide) rfl rfl (Nat.le_of_ble_eq_true rfl) dX2_side_52 rfl ?_
      rintro _ w52 ⟨x52, rfl, e⟩
      obtain ⟨rfl, rfl⟩ := e
      rw [ati_n hk (by decide), show Tpt (xtab X (7 + 6 * 0)) k = qp (zg σ) k from R_pt R.1 hk]
      refine j_iret h rfl dX2_side_55 ?_
      exact ⟨_, rfl, by rw [hs]; simp, X, rfl, R⟩
    by_cases hs12_1 : b = 1
    · subst hs12_1
      refine j_tableIn h (tgt := 56) dX2_side_12 (by decide) (by decide) rfl (by decide) ?_
      refine j_aload_n h (q := 57) 0 dX2_side_56 rfl rfl ?_
      refine j_get h (q := 60) inX2 (C := RX2) (T := TX2) (N := 9) (ci := 2) rfl 0 (by decide) mF_X2_10 (by decide) (xw_0 _ _ _) rfl dX2_side_57 rfl ?_
      refine j_get h (q := 63) inX1 (C := RX1) (T := TX1) (N := 9) (ci := 1) rfl 3 (by decide) mF_X2_129 (by decide) (xw_r g _ _ (i := 0) (by decide)) rfl dX2_side_60 rfl ?_
      refine j_iload_n h (q := 64) 1 dX2_side_63 rfl rfl ?_
      refine j_cS h (q := 67) mo_X2_at mS_X2_at mL_X2_125 (c_X2_at g _ (z := 7 + 6 * 0 + 4) (n := 2) (by decide) (show xw g w X (7 + 6 * 0 + 4) = _ from (xw_t g w X (i := 0) (by decide) (k := 4) (by decide))) (by decide) _) (by decide) rfl rfl (Nat.le_of_ble_eq_true rfl) dX2_side_64 rfl ?_
      rintro _ w64 ⟨x64, rfl, e⟩
      obtain ⟨rfl, rfl⟩ := e
      rw [ati_n hk (by decide), show Tfz (xtab X (7 + 6 * 0)) k = nI (qf (zg σ) k) from R_fz R.1 hk]
      refine j_iret h rfl dX2_side_67 ?_
      exact ⟨_, rfl, by rw [hs]; simp, X, rfl, R⟩
    by_cases hs12_2 : b = 2
    · subst hs12_2
      refine j_tableIn h (tgt := 68) dX2_side_12 (by decide) (by decide) rfl (by decide) ?_
      refine j_aload_n h (q := 69) 0 dX2_side_68 rfl rfl ?_
      refine j_get h (q := 72) inX2 (C := RX2) (T := TX2) (N := 9) (ci := 2) rfl 0 (by decide) mF_X2_10 (by decide) (xw_0 _ _ _) rfl dX2_side_69 rfl ?_
      refine j_iload_n h (q := 73) 1 dX2_side_72 rfl rfl ?_
      refine j_cV h (q := 76) (C := RX1) (T := TX1) (N := 9) (ci := 1) mo_X1_leftOf mI_X1_leftOf mV_X1_leftOf mL_X2_132 (xw_con (i := 0) (by decide) (c_leftOf g _ _ (by decide) (xtab X (7 + 6 * 0)) rfl hk)) (by decide) (by decide) (xw_r g _ _ (i := 0) (by decide)) rfl rfl rfl (Nat.le_of_ble_eq_true rfl) dX2_side_73 rfl ?_
      rintro _ w73 ⟨x73, rfl, e⟩
      obtain ⟨rfl, rfl⟩ := e
      rw [xw_tab g w _ (show 0 < 10 by decide), show Tsz (xtab X (7 + 6 * 0)) k = nI (qn (zg σ) k) from R_sz R.1 (by omega), show Tsz (xtab X (7 + 6 * 0)) (2 + k) = nI (qn (zg σ) (2 + k)) from R_sz R.1 (by omega), show Tsz (xtab X (7 + 6 * 0)) (4 + k) = nI (qn (zg σ) (4 + k)) from R_sz R.1 (by omega), nI_add, nI_add, show qn (zg σ) k + qn (zg σ) (2 + k) + qn (zg σ) (4 + k) = leftG (qn (zg σ)) k from rfl]
      refine j_iret h rfl dX2_side_76 ?_
      exact ⟨_, rfl, by rw [hs]; simp, X, rfl, R⟩
    have hs12_3 : b = 3 := sw_last4 (b) hsw12 hs12_0 hs12_1 hs12_2
    subst hs12_3
    refine j_tableIn h (tgt := 77) dX2_side_12 (by decide) (by decide) rfl (by decide) ?_
    refine j_aload_n h (q := 78) 0 dX2_side_77 rfl rfl ?_
    refine j_get h (q := 81) inX2 (C := RX2) (T := TX2) (N := 9) (ci := 2) rfl 0 (by decide) mF_X2_10 (by decide) (xw_0 _ _ _) rfl dX2_side_78 rfl ?_
    refine j_iload_n h (q := 82) 1 dX2_side_81 rfl rfl ?_
    refine j_cV h (q := 85) (C := RX1) (T := TX1) (N := 9) (ci := 1) mo_X1_longestHouse mI_X1_longestHouse mV_X1_longestHouse mL_X2_135 (xw_con (i := 0) (by decide) (c_longestHouse g _ _ (by decide) (xtab X (7 + 6 * 0)) (zg σ) R.1 S.1 rfl hk)) (by decide) (by decide) (xw_r g _ _ (i := 0) (by decide)) rfl rfl rfl (Nat.le_of_ble_eq_true rfl) dX2_side_82 rfl ?_
    rintro _ w82 ⟨x82, rfl, e⟩
    obtain ⟨rfl, rfl⟩ := e
    rw [xw_tab g w _ (show 0 < 10 by decide)]
    refine j_iret h rfl dX2_side_85 ?_
    exact ⟨_, rfl, by rw [hs]; simp, X, rfl, R⟩
  · have hs : spSide (zg σ) a b = -2 := if_neg ha
    refine j_iload_n h (q := 1) 1 dX2_side_0 rfl rfl ?_
    refine j_iconst h (q := 2) (2) dX2_side_1 rfl (by decide) ?_
    refine j_cS h (q := 5) mo_X2_isBelow mS_X2_isBelow mL_X2_79 (c_X2_isBelow g _ _ _) (by decide) rfl rfl (Nat.le_of_ble_eq_true rfl) dX2_side_2 rfl ?_
    rintro _ w2 ⟨x2, rfl, e⟩
    obtain ⟨e1, rfl⟩ := e
    obtain rfl : x2 = 0 := e1.trans (b2i_df (show ¬ (¬ a < 0 ∧ a < 2) from ha)).symm
    refine j_if_ne h (tgt := 11) (q := 8) dX2_side_5 rfl (by decide) (fun c_5 => ?_) (fun c_5 => ?_)
    · exact absurd (show (0 : Int32) = 0 from rfl) c_5
    refine j_bipush h (q := 10) (-2) dX2_side_8 rfl (by decide) ?_
    refine j_iret h rfl dX2_side_10 ?_
    exact ⟨_, rfl, by first | (rw [hs]; done) | (rw [hs]; rfl), X, rfl, R⟩

set_option maxRecDepth 100000 in
set_option maxHeartbeats 4000000 in
theorem X_best (g : jG) (w : jW) (X : Xs) (σ : Sg) (S : SI σ) (R : XR X σ)  : ConI g 5 yX2_best cX2_best 1 (some (.int)) [.ref (gr g 0)] (xw g w X) (fun x w' => x = bestI (zg σ) ∧ ∃ X', w' = xw g w X' ∧ XR X' σ) := by
  refine con_of (by decide +kernel) (Nat.le_of_ble_eq_true rfl) [(0, _)] rfl (fun K h => ?_)
  refine j_aload_n h (q := 1) 0 dX2_best_0 rfl rfl ?_
  refine j_aload_n h (q := 2) 0 dX2_best_1 rfl rfl ?_
  refine j_get h (q := 5) inX2 (C := RX2) (T := TX2) (N := 9) (ci := 2) rfl 0 (by decide) mF_X2_10 (by decide) (xw_0 _ _ _) rfl dX2_best_2 rfl ?_
  refine j_cV h (q := 8) (C := RX2) (T := TX2) (N := 9) (ci := 2) mo_X2_indexOfBest mI_X2_indexOfBest mV_X2_indexOfBest mL_X2_166 (c_indexOfBest g _ _ (i := 0) (by decide) (zg σ) R.1 S.1) (by decide) (by decide) (xw_0 _ _ _) rfl rfl rfl (Nat.le_of_ble_eq_true rfl) dX2_best_5 rfl ?_
  rintro _ w5 ⟨x5, rfl, e⟩
  obtain ⟨rfl, f, rfl, hf⟩ := e
  refine j_iret h rfl dX2_best_8 ?_
  exact ⟨_, rfl, rfl, _, rfl, R⟩

set_option maxRecDepth 100000 in
set_option maxHeartbeats 4000000 in
theorem X_fault (g : jG) (w : jW) (X : Xs) (σ : Sg) (S : SI σ) (R : XR X σ)  : ConI g 6 yX2_fault cX2_fault 1 (some (.int)) [.ref (gr g 0)] (xw g w X) (fun x w' => x = ov (faultG (zl σ) (zc σ)) ∧ ∃ X', w' = xw g w X' ∧ XR X' σ) := by
  refine con_of (by decide +kernel) (Nat.le_of_ble_eq_true rfl) [(0, _)] rfl (fun K h => ?_)
  refine j_aload_n h (q := 1) 0 dX2_fault_0 rfl rfl ?_
  refine j_get h (q := 4) inX2 (C := RX2) (T := TX2) (N := 9) (ci := 2) rfl 5 (by decide) mF_X2_33 (by decide) (xw_0 _ _ _) rfl dX2_fault_1 rfl ?_
  refine j_cV h (q := 7) (C := RX0) (T := TX0) (N := 2) (ci := 0) mo_X0_firstFault mI_X0_firstFault mV_X0_firstFault mL_X2_92 (p_firstFault g _ _ (XR_PD S R)) (by decide) (by decide) (xw_5 _ _ _) rfl rfl rfl (Nat.le_of_ble_eq_true rfl) dX2_fault_4 rfl ?_
  rintro _ w4 ⟨x4, rfl, e⟩
  obtain ⟨rfl, rfl⟩ := e
  refine j_iret h rfl dX2_fault_7 ?_
  exact ⟨_, rfl, rfl, X, rfl, R⟩

set_option maxRecDepth 100000 in
set_option maxHeartbeats 4000000 in
theorem X_wipe (g : jG) (w : jW) (X : Xs) (σ : Sg) (S : SI σ) (R : XR X σ)  : ConI g 1 yX2_wipe cX2_wipe 2 (some (.int)) [.ref (gr g 0)] (xw g w X) (fun x w' => x = ((nI (zl σ), wipeG σ)).1 ∧ ∃ X', w' = xw g w X' ∧ XR X' ((nI (zl σ), wipeG σ)).2) := by
  refine con_of (by decide +kernel) (Nat.le_of_ble_eq_true rfl) [(0, _)] rfl (fun K h => ?_)
  refine j_aload_n h (q := 1) 0 dX2_wipe_0 rfl rfl ?_
  refine j_get h (q := 4) inX2 (C := RX2) (T := TX2) (N := 9) (ci := 2) rfl 5 (by decide) mF_X2_33 (by decide) (xw_0 _ _ _) rfl dX2_wipe_1 rfl ?_
  refine j_get h (q := 7) inX0 (C := RX0) (T := TX0) (N := 2) (ci := 0) rfl 1 (by decide) mF_X2_95 (by decide) (xw_5 _ _ _) rfl dX2_wipe_4 rfl ?_
  refine j_istore_n h (q := 8) (loc' := [(1, _), (0, _)]) dX2_wipe_7 rfl (by decide) rfl ?_
  refine j_aload_n h (q := 9) 1 dX2_wipe_8 rfl rfl ?_
  refine j_get h (q := 12) inX2 (C := RX2) (T := TX2) (N := 9) (ci := 2) rfl 5 (by decide) mF_X2_33 (by decide) (xw_0 _ _ _) rfl dX2_wipe_9 rfl ?_
  refine j_cV h (q := 15) (C := RX0) (T := TX0) (N := 2) (ci := 0) mo_X0_clear mI_X0_clear mV_X0_clear mL_X2_104 (p_clear g _ _) (by decide) (by decide) (xw_5 _ _ _) rfl rfl rfl (Nat.le_of_ble_eq_true rfl) dX2_wipe_12 rfl ?_
  rintro _ w12 ⟨rfl, e⟩
  subst e
  refine j_iload_n h (q := 16) 0 dX2_wipe_15 rfl rfl ?_
  refine j_iret h rfl dX2_wipe_16 ?_
  exact ⟨_, rfl, R.2.2.2.2.1, _, rfl, XR_wipe R⟩

set_option maxRecDepth 100000 in
set_option maxHeartbeats 4000000 in
theorem X_count (g : jG) (w : jW) (X : Xs) (σ : Sg) (S : SI σ) (R : XR X σ) (b : Int32)  : ConI g 4 yX2_count cX2_count 2 (some (.int)) [.ref (gr g 0), .int b] (xw g w X) (fun x w' => x = spCount σ b ∧ ∃ X', w' = xw g w X' ∧ XR X' σ) := by
  refine con_of (by decide +kernel) (Nat.le_of_ble_eq_true rfl) [(0, _), (1, _)] rfl (fun K h => ?_)
  refine j_iload_n h (q := 1) 1 dX2_count_0 rfl rfl ?_
  by_cases hsw1 : (b).toInt < 0 ∨ 8 < (b).toInt
  · refine j_tableOut h (tgt := 133) dX2_count_1 hsw1 (by decide) ?_
    refine j_bipush h (q := 135) (-2) dX2_count_133 rfl (by decide) ?_
    refine j_iret h rfl dX2_count_135 ?_
    exact ⟨_, rfl, by unfold spCount; rw [if_neg (show ¬ b = 0 from sw_out (n := 8) (k := 0) hsw1 (by decide) (by decide)), if_neg (show ¬ b = 1 from sw_out (n := 8) (k := 1) hsw1 (by decide) (by decide)), if_neg (show ¬ b = 2 from sw_out (n := 8) (k := 2) hsw1 (by decide) (by decide)), if_neg (show ¬ b = 3 from sw_out (n := 8) (k := 3) hsw1 (by decide) (by decide)), if_neg (show ¬ b = 4 from sw_out (n := 8) (k := 4) hsw1 (by decide) (by decide)), if_neg (show ¬ b = 5 from sw_out (n := 8) (k := 5) hsw1 (by decide) (by decide)), if_neg (show ¬ b = 6 from sw_out (n := 8) (k := 6) hsw1 (by decide) (by decide)), if_neg (show ¬ b = 7 from sw_out (n := 8) (k := 7) hsw1 (by decide) (by decide)), if_neg (show ¬ b = 8 from sw_out (n := 8) (k := 8) hsw1 (by decide) (by decide))], X, rfl, R⟩
  by_cases hs1_0 : b = 0
  · subst hs1_0
    refine j_tableIn h (tgt := 52) dX2_count_1 (by decide) (by decide) rfl (by decide) ?_
    refine j_aload_n h (q := 53) 0 dX2_count_52 rfl rfl ?_
    refine j_get h (q := 56) inX2 (C := RX2) (T := TX2) (N := 9) (ci := 2) rfl 0 (by decide) mF_X2_10 (by decide) (xw_0 _ _ _) rfl dX2_count_53 rfl ?_
    refine j_get h (q := 59) inX1 (C := RX1) (T := TX1) (N := 9) (ci := 1) rfl 5 (by decide) mF_X2_138 (by decide) (xw_r g _ _ (i := 0) (by decide)) rfl dX2_count_56 rfl ?_
    refine j_iret h rfl dX2_count_59 ?_
    exact ⟨_, rfl, (R_tp R.1 : _ = nI (qt (zg σ))).trans (show nI (qt (zg σ)) = spCount σ 0 from rfl), X, rfl, R⟩
  by_cases hs1_1 : b = 1
  · subst hs1_1
    refine j_tableIn h (tgt := 60) dX2_count_1 (by decide) (by decide) rfl (by decide) ?_
    refine j_aload_n h (q := 61) 0 dX2_count_60 rfl rfl ?_
    refine j_get h (q := 64) inX2 (C := RX2) (T := TX2) (N := 9) (ci := 2) rfl 0 (by decide) mF_X2_10 (by decide) (xw_0 _ _ _) rfl dX2_count_61 rfl ?_
    refine j_get h (q := 67) inX1 (C := RX1) (T := TX1) (N := 9) (ci := 1) rfl 8 (by decide) mF_X2_71 (by decide) (xw_r g _ _ (i := 0) (by decide)) rfl dX2_count_64 rfl ?_
    rw [show Tov (xtab X (7 + 6 * 0)) = b2i (qo (zg σ)) from R_ov R.1]
    refine j_if_eq h (tgt := 74) (q := 70) dX2_count_67 rfl (by decide) (fun c_67 => ?_) (fun c_67 => ?_)
    · refine j_iconst h (q := 75) (0) dX2_count_74 rfl (by decide) ?_
      refine j_iret h rfl dX2_count_75 ?_
      exact ⟨_, rfl, ((by rw [b2i_0] at c_67; rw [c_67]; rfl) : _ = b2i (qo (zg σ))).trans (show b2i (qo (zg σ)) = spCount σ 1 from rfl), X, rfl, R⟩
    · refine j_iconst h (q := 71) (1) dX2_count_70 rfl (by decide) ?_
      refine j_goto h (tgt := 75) dX2_count_71 (by decide) ?_
      refine j_iret h rfl dX2_count_75 ?_
      exact ⟨_, rfl, ((by rw [b2i_1] at c_67; rw [c_67]; rfl) : _ = b2i (qo (zg σ))).trans (show b2i (qo (zg σ)) = spCount σ 1 from rfl), X, rfl, R⟩
  by_cases hs1_2 : b = 2
  · subst hs1_2
    refine j_tableIn h (tgt := 76) dX2_count_1 (by decide) (by decide) rfl (by decide) ?_
    refine j_aload_n h (q := 77) 0 dX2_count_76 rfl rfl ?_
    refine j_get h (q := 80) inX2 (C := RX2) (T := TX2) (N := 9) (ci := 2) rfl 0 (by decide) mF_X2_10 (by decide) (xw_0 _ _ _) rfl dX2_count_77 rfl ?_
    refine j_get h (q := 83) inX1 (C := RX1) (T := TX1) (N := 9) (ci := 1) rfl 6 (by decide) mF_X2_141 (by decide) (xw_r g _ _ (i := 0) (by decide)) rfl dX2_count_80 rfl ?_
    refine j_iret h rfl dX2_count_83 ?_
    exact ⟨_, rfl, (R_dr R.1 : _ = nI (qd (zg σ))).trans (show nI (qd (zg σ)) = spCount σ 2 from rfl), X, rfl, R⟩
  by_cases hs1_3 : b = 3
  · subst hs1_3
    refine j_tableIn h (tgt := 84) dX2_count_1 (by decide) (by decide) rfl (by decide) ?_
    refine j_aload_n h (q := 85) 0 dX2_count_84 rfl rfl ?_
    refine j_get h (q := 88) inX2 (C := RX2) (T := TX2) (N := 9) (ci := 2) rfl 0 (by decide) mF_X2_10 (by decide) (xw_0 _ _ _) rfl dX2_count_85 rfl ?_
    refine j_get h (q := 91) inX1 (C := RX1) (T := TX1) (N := 9) (ci := 1) rfl 7 (by decide) mF_X2_144 (by decide) (xw_r g _ _ (i := 0) (by decide)) rfl dX2_count_88 rfl ?_
    refine j_iret h rfl dX2_count_91 ?_
    exact ⟨_, rfl, (R_mv R.1 : _ = qm (zg σ)).trans (show qm (zg σ) = spCount σ 3 from rfl), X, rfl, R⟩
  by_cases hs1_4 : b = 4
  · subst hs1_4
    refine j_tableIn h (tgt := 92) dX2_count_1 (by decide) (by decide) rfl (by decide) ?_
    refine j_aload_n h (q := 93) 0 dX2_count_92 rfl rfl ?_
    refine j_get h (q := 96) inX2 (C := RX2) (T := TX2) (N := 9) (ci := 2) rfl 0 (by decide) mF_X2_10 (by decide) (xw_0 _ _ _) rfl dX2_count_93 rfl ?_
    refine j_cV h (q := 99) (C := RX1) (T := TX1) (N := 9) (ci := 1) mo_X1_onAces mI_X1_onAces mV_X1_onAces mL_X2_147 (xw_con (i := 0) (by decide) (c_onAces g _ _ (by decide) (xtab X (7 + 6 * 0)) (zg σ) R.1 S.1)) (by decide) (by decide) (xw_r g _ _ (i := 0) (by decide)) rfl rfl rfl (Nat.le_of_ble_eq_true rfl) dX2_count_96 rfl ?_
    rintro _ w96 ⟨x96, rfl, e⟩
    obtain ⟨rfl, rfl⟩ := e
    rw [xw_tab g w _ (show 0 < 10 by decide)]
    refine j_iret h rfl dX2_count_99 ?_
    exact ⟨_, rfl, (rfl : _ = nI (acesG (zg σ) 8)).trans (show nI (acesG (zg σ) 8) = spCount σ 4 from rfl), X, rfl, R⟩
  by_cases hs1_5 : b = 5
  · subst hs1_5
    refine j_tableIn h (tgt := 100) dX2_count_1 (by decide) (by decide) rfl (by decide) ?_
    refine j_aload_n h (q := 101) 0 dX2_count_100 rfl rfl ?_
    refine j_get h (q := 104) inX2 (C := RX2) (T := TX2) (N := 9) (ci := 2) rfl 0 (by decide) mF_X2_10 (by decide) (xw_0 _ _ _) rfl dX2_count_101 rfl ?_
    refine j_aload_n h (q := 105) 0 dX2_count_104 rfl rfl ?_
    refine j_get h (q := 108) inX2 (C := RX2) (T := TX2) (N := 9) (ci := 2) rfl 6 (by decide) mF_X2_37 (by decide) (xw_0 _ _ _) rfl dX2_count_105 rfl ?_
    refine j_cV h (q := 111) (C := RX1) (T := TX1) (N := 9) (ci := 1) mo_X1_listMoves mI_X1_listMoves mV_X1_listMoves mL_X2_150 (xw_con (i := 0) (by decide) (c_listMoves g _ _ (by decide) (xtab X (7 + 6 * 0)) (zg σ) R.1 S.1 (z := 1) (by decide) (by decide) (f := Xmv X) (xw_1 _ _ _))) (by decide) (by decide) (xw_r g _ _ (i := 0) (by decide)) rfl rfl rfl (Nat.le_of_ble_eq_true rfl) dX2_count_108 rfl ?_
    rintro _ w108 ⟨x108, rfl, e⟩
    obtain ⟨rfl, f, rfl, hf⟩ := e
    rw [xw_u1, show xtab X (7 + 6 * 0) = xtab (yMv X f) (7 + 6 * 0) from rfl, xw_tab g w _ (show 0 < 10 by decide)]
    refine j_iret h rfl dX2_count_111 ?_
    exact ⟨_, rfl, (show nI (LM (zg σ) 308).length = spCount σ 5 from rfl), _, rfl, R⟩
  by_cases hs1_6 : b = 6
  · subst hs1_6
    refine j_tableIn h (tgt := 112) dX2_count_1 (by decide) (by decide) rfl (by decide) ?_
    refine j_aload_n h (q := 113) 0 dX2_count_112 rfl rfl ?_
    refine j_get h (q := 116) inX2 (C := RX2) (T := TX2) (N := 9) (ci := 2) rfl 0 (by decide) mF_X2_10 (by decide) (xw_0 _ _ _) rfl dX2_count_113 rfl ?_
    refine j_cV h (q := 119) (C := RX1) (T := TX1) (N := 9) (ci := 1) mo_X1_frozenHouses mI_X1_frozenHouses mV_X1_frozenHouses mL_X2_154 (xw_con (i := 0) (by decide) (c_frozenHouses g _ _ (by decide) (xtab X (7 + 6 * 0)) (zg σ) R.1 S.1)) (by decide) (by decide) (xw_r g _ _ (i := 0) (by decide)) rfl rfl rfl (Nat.le_of_ble_eq_true rfl) dX2_count_116 rfl ?_
    rintro _ w116 ⟨x116, rfl, e⟩
    obtain ⟨rfl, rfl⟩ := e
    rw [xw_tab g w _ (show 0 < 10 by decide)]
    refine j_iret h rfl dX2_count_119 ?_
    exact ⟨_, rfl, (rfl : _ = nI (frzN (zg σ) 8)).trans (show nI (frzN (zg σ) 8) = spCount σ 6 from rfl), X, rfl, R⟩
  by_cases hs1_7 : b = 7
  · subst hs1_7
    refine j_tableIn h (tgt := 120) dX2_count_1 (by decide) (by decide) rfl (by decide) ?_
    refine j_aload_n h (q := 121) 0 dX2_count_120 rfl rfl ?_
    refine j_get h (q := 124) inX2 (C := RX2) (T := TX2) (N := 9) (ci := 2) rfl 5 (by decide) mF_X2_33 (by decide) (xw_0 _ _ _) rfl dX2_count_121 rfl ?_
    refine j_get h (q := 127) inX0 (C := RX0) (T := TX0) (N := 2) (ci := 0) rfl 1 (by decide) mF_X2_95 (by decide) (xw_5 _ _ _) rfl dX2_count_124 rfl ?_
    refine j_iret h rfl dX2_count_127 ?_
    exact ⟨_, rfl, (R.2.2.2.2.1 : _ = nI (zl σ)).trans (show nI (zl σ) = spCount σ 7 from rfl), X, rfl, R⟩
  have hs1_8 : b = 8 := sw_last9 (b) hsw1 hs1_0 hs1_1 hs1_2 hs1_3 hs1_4 hs1_5 hs1_6 hs1_7
  subst hs1_8
  refine j_tableIn h (tgt := 128) dX2_count_1 (by decide) (by decide) rfl (by decide) ?_
  refine j_aload_n h (q := 129) 0 dX2_count_128 rfl rfl ?_
  refine j_get h (q := 132) inX2 (C := RX2) (T := TX2) (N := 9) (ci := 2) rfl 8 (by decide) mF_X2_45 (by decide) (xw_0 _ _ _) rfl dX2_count_129 rfl ?_
  refine j_iret h rfl dX2_count_132 ?_
  exact ⟨_, rfl, (R.2.1 : _ = nI (zn σ)).trans (show nI (zn σ) = spCount σ 8 from rfl), X, rfl, R⟩

set_option maxRecDepth 100000 in
set_option maxHeartbeats 4000000 in
theorem X_ofMove (g : jG) (w : jW) (X : Xs) (σ : Sg) (S : SI σ) (R : XR X σ) (a b : Int32)  : ConI g 4 yX2_ofMove cX2_ofMove 5 (some (.int)) [.ref (gr g 0), .int a, .int b] (xw g w X) (fun x w' => x = spOf (zg σ) a b ∧ ∃ X', w' = xw g w X' ∧ XR X' σ) := by
  refine con_of (by decide +kernel) (Nat.le_of_ble_eq_true rfl) [(0, _), (1, _), (2, _)] rfl (fun K h => ?_)
  by_cases ha : inn (LM (zg σ) 308).length a
  · have hl := list_170 S.1
    obtain ⟨k, hk, rfl, hvk⟩ := inn_of (by omega) ha
    obtain ⟨m, hm⟩ : ∃ m, (LM (zg σ) 308)[k] = m := ⟨_, rfl⟩
    have hm3 : m < 308 := by rw [← hm]; exact LM_lt hk
    have hmv : mvG (zg σ) (nI k) = m := by unfold mvG List.getD; rw [hvk, List.getElem?_eq_getElem hk]; exact hm
    have hs : spOf (zg σ) (nI k) b = (if b = 0 then nI (m / 22) else if b = 1 then nI (m % 22) else if b = 2 then nI (ptM (zg σ) m) else -2) := by unfold spOf; rw [if_pos ha, hmv]
    refine j_iload_n h (q := 1) 1 dX2_ofMove_0 rfl rfl ?_
    refine j_aload_n h (q := 2) 0 dX2_ofMove_1 rfl rfl ?_
    refine j_get h (q := 5) inX2 (C := RX2) (T := TX2) (N := 9) (ci := 2) rfl 0 (by decide) mF_X2_10 (by decide) (xw_0 _ _ _) rfl dX2_ofMove_2 rfl ?_
    refine j_aload_n h (q := 6) 0 dX2_ofMove_5 rfl rfl ?_
    refine j_get h (q := 9) inX2 (C := RX2) (T := TX2) (N := 9) (ci := 2) rfl 6 (by decide) mF_X2_37 (by decide) (xw_0 _ _ _) rfl dX2_ofMove_6 rfl ?_
    refine j_cV h (q := 12) (C := RX1) (T := TX1) (N := 9) (ci := 1) mo_X1_listMoves mI_X1_listMoves mV_X1_listMoves mL_X2_150 (xw_con (i := 0) (by decide) (c_listMoves g _ _ (by decide) (xtab X (7 + 6 * 0)) (zg σ) R.1 S.1 (z := 1) (by decide) (by decide) (f := Xmv X) (xw_1 _ _ _))) (by decide) (by decide) (xw_r g _ _ (i := 0) (by decide)) rfl rfl rfl (Nat.le_of_ble_eq_true rfl) dX2_ofMove_9 rfl ?_
    rintro _ w9 ⟨x9, rfl, e⟩
    obtain ⟨rfl, f, rfl, hf⟩ := e
    rw [xw_u1, show xtab X (7 + 6 * 0) = xtab (yMv X f) (7 + 6 * 0) from rfl, xw_tab g w _ (show 0 < 10 by decide)]
    refine j_cS h (q := 15) mo_X2_isBelow mS_X2_isBelow mL_X2_79 (c_X2_isBelow g _ _ _) (by decide) rfl rfl (Nat.le_of_ble_eq_true rfl) dX2_ofMove_12 rfl ?_
    rintro _ w12 ⟨x12, rfl, e⟩
    obtain ⟨e1, rfl⟩ := e
    obtain rfl : x12 = 1 := e1.trans (b2i_dt ha).symm
    refine j_if_ne h (tgt := 20) (q := 18) dX2_ofMove_15 rfl (by decide) (fun c_15 => ?_) (fun c_15 => ?_)
    rotate_left
    · exact absurd (show (1 : Int32) = 0 from c_15) (by decide)
    refine j_aload_n h (q := 21) 0 dX2_ofMove_20 rfl rfl ?_
    refine j_get h (q := 24) inX2 (C := RX2) (T := TX2) (N := 9) (ci := 2) rfl 6 (by decide) mF_X2_37 (by decide) (xw_0 _ _ _) rfl dX2_ofMove_21 rfl ?_
    refine j_iload_n h (q := 25) 1 dX2_ofMove_24 rfl rfl ?_
    refine j_cS h (q := 28) mo_X2_at mS_X2_at mL_X2_125 (c_X2_at g _ (z := 1) (n := 170) (f := f) (by decide) (xw_1 _ _ _) (by decide) _) (by decide) rfl rfl (Nat.le_of_ble_eq_true rfl) dX2_ofMove_25 rfl ?_
    rintro _ w25 ⟨x25, rfl, e⟩
    obtain ⟨rfl, rfl⟩ := e
    rw [ati_n (by omega) (by decide), hf k hk, hm]
    refine j_cS h (q := 31) mo_X2_fromOf mS_X2_fromOf mL_X2_157 (c_X2_fromOf g _ _) (by decide) rfl rfl (Nat.le_of_ble_eq_true rfl) dX2_ofMove_28 rfl ?_
    rintro _ w28 ⟨x28, rfl, e⟩
    obtain ⟨rfl, rfl⟩ := e
    rw [show (22 : Int32) = nI 22 from rfl, pk_div (by omega) (by decide) (by decide)]
    refine j_istore_n h (q := 32) (loc' := [(3, _), (0, _), (1, _), (2, _)]) dX2_ofMove_31 rfl (by decide) rfl ?_
    refine j_aload_n h (q := 33) 1 dX2_ofMove_32 rfl rfl ?_
    refine j_get h (q := 36) inX2 (C := RX2) (T := TX2) (N := 9) (ci := 2) rfl 6 (by decide) mF_X2_37 (by decide) (xw_0 _ _ _) rfl dX2_ofMove_33 rfl ?_
    refine j_iload_n h (q := 37) 2 dX2_ofMove_36 rfl rfl ?_
    refine j_cS h (q := 40) mo_X2_at mS_X2_at mL_X2_125 (c_X2_at g _ (z := 1) (n := 170) (f := f) (by decide) (xw_1 _ _ _) (by decide) _) (by decide) rfl rfl (Nat.le_of_ble_eq_true rfl) dX2_ofMove_37 rfl ?_
    rintro _ w37 ⟨x37, rfl, e⟩
    obtain ⟨rfl, rfl⟩ := e
    rw [ati_n (by omega) (by decide), hf k hk, hm]
    refine j_cS h (q := 43) mo_X2_toOf mS_X2_toOf mL_X2_160 (c_X2_toOf g _ _) (by decide) rfl rfl (Nat.le_of_ble_eq_true rfl) dX2_ofMove_40 rfl ?_
    rintro _ w40 ⟨x40, rfl, e⟩
    obtain ⟨rfl, rfl⟩ := e
    rw [show (22 : Int32) = nI 22 from rfl, pk_rem (by omega) (by decide) (by decide)]
    refine j_istore h (q := 45) (loc' := [(4, _), (3, _), (0, _), (1, _), (2, _)]) dX2_ofMove_43 rfl (by decide) rfl ?_
    refine j_iload_n h (q := 46) 4 dX2_ofMove_45 rfl rfl ?_
    by_cases hsw46 : (b).toInt < 0 ∨ 2 < (b).toInt
    · refine j_tableOut h (tgt := 88) dX2_ofMove_46 hsw46 (by decide) ?_
      refine j_bipush h (q := 90) (-2) dX2_ofMove_88 rfl (by decide) ?_
      refine j_iret h rfl dX2_ofMove_90 ?_
      exact ⟨_, rfl, by rw [hs, if_neg (show ¬ b = 0 from sw_out (n := 2) (k := 0) hsw46 (by decide) (by decide)), if_neg (show ¬ b = 1 from sw_out (n := 2) (k := 1) hsw46 (by decide) (by decide)), if_neg (show ¬ b = 2 from sw_out (n := 2) (k := 2) hsw46 (by decide) (by decide))], _, rfl, R⟩
    by_cases hs46_0 : b = 0
    · subst hs46_0
      refine j_tableIn h (tgt := 72) dX2_ofMove_46 (by decide) (by decide) rfl (by decide) ?_
      refine j_iload_n h (q := 73) 1 dX2_ofMove_72 rfl rfl ?_
      refine j_iret h rfl dX2_ofMove_73 ?_
      exact ⟨_, rfl, by rw [hs]; simp, _, rfl, R⟩
    by_cases hs46_1 : b = 1
    · subst hs46_1
      refine j_tableIn h (tgt := 74) dX2_ofMove_46 (by decide) (by decide) rfl (by decide) ?_
      refine j_iload h (q := 76) 0 dX2_ofMove_74 rfl rfl ?_
      refine j_iret h rfl dX2_ofMove_76 ?_
      exact ⟨_, rfl, by rw [hs]; simp, _, rfl, R⟩
    have hs46_2 : b = 2 := sw_last3 (b) hsw46 hs46_0 hs46_1
    subst hs46_2
    refine j_tableIn h (tgt := 77) dX2_ofMove_46 (by decide) (by decide) rfl (by decide) ?_
    refine j_aload_n h (q := 78) 2 dX2_ofMove_77 rfl rfl ?_
    refine j_get h (q := 81) inX2 (C := RX2) (T := TX2) (N := 9) (ci := 2) rfl 0 (by decide) mF_X2_10 (by decide) (xw_0 _ _ _) rfl dX2_ofMove_78 rfl ?_
    refine j_iload_n h (q := 82) 1 dX2_ofMove_81 rfl rfl ?_
    refine j_iload h (q := 84) 0 dX2_ofMove_82 rfl rfl ?_
    refine j_cV h (q := 87) (C := RX1) (T := TX1) (N := 9) (ci := 1) mo_X1_pointsFor mI_X1_pointsFor mV_X1_pointsFor mL_X2_163 (xw_con (i := 0) (by decide) (c_pointsFor g _ _ (by decide) (xtab (yMv X f) (7 + 6 * 0)) (zg σ) R.1 S.1 rfl rfl (by omega) (by omega))) (by decide) (by decide) (xw_r g _ _ (i := 0) (by decide)) rfl rfl rfl (Nat.le_of_ble_eq_true rfl) dX2_ofMove_84 rfl ?_
    rintro _ w84 ⟨x84, rfl, e⟩
    obtain ⟨rfl, rfl⟩ := e
    rw [xw_tab g w _ (show 0 < 10 by decide)]
    refine j_iret h rfl dX2_ofMove_87 ?_
    exact ⟨_, rfl, by rw [hs]; simp; rfl, _, rfl, R⟩
  · have hs : spOf (zg σ) a b = -1 := if_neg ha
    refine j_iload_n h (q := 1) 1 dX2_ofMove_0 rfl rfl ?_
    refine j_aload_n h (q := 2) 0 dX2_ofMove_1 rfl rfl ?_
    refine j_get h (q := 5) inX2 (C := RX2) (T := TX2) (N := 9) (ci := 2) rfl 0 (by decide) mF_X2_10 (by decide) (xw_0 _ _ _) rfl dX2_ofMove_2 rfl ?_
    refine j_aload_n h (q := 6) 0 dX2_ofMove_5 rfl rfl ?_
    refine j_get h (q := 9) inX2 (C := RX2) (T := TX2) (N := 9) (ci := 2) rfl 6 (by decide) mF_X2_37 (by decide) (xw_0 _ _ _) rfl dX2_ofMove_6 rfl ?_
    refine j_cV h (q := 12) (C := RX1) (T := TX1) (N := 9) (ci := 1) mo_X1_listMoves mI_X1_listMoves mV_X1_listMoves mL_X2_150 (xw_con (i := 0) (by decide) (c_listMoves g _ _ (by decide) (xtab X (7 + 6 * 0)) (zg σ) R.1 S.1 (z := 1) (by decide) (by decide) (f := Xmv X) (xw_1 _ _ _))) (by decide) (by decide) (xw_r g _ _ (i := 0) (by decide)) rfl rfl rfl (Nat.le_of_ble_eq_true rfl) dX2_ofMove_9 rfl ?_
    rintro _ w9 ⟨x9, rfl, e⟩
    obtain ⟨rfl, f, rfl, hf⟩ := e
    rw [xw_u1, show xtab X (7 + 6 * 0) = xtab (yMv X f) (7 + 6 * 0) from rfl, xw_tab g w _ (show 0 < 10 by decide)]
    refine j_cS h (q := 15) mo_X2_isBelow mS_X2_isBelow mL_X2_79 (c_X2_isBelow g _ _ _) (by decide) rfl rfl (Nat.le_of_ble_eq_true rfl) dX2_ofMove_12 rfl ?_
    rintro _ w12 ⟨x12, rfl, e⟩
    obtain ⟨e1, rfl⟩ := e
    obtain rfl : x12 = 0 := e1.trans (b2i_df ha).symm
    refine j_if_ne h (tgt := 20) (q := 18) dX2_ofMove_15 rfl (by decide) (fun c_15 => ?_) (fun c_15 => ?_)
    · exact absurd (show (0 : Int32) = 0 from rfl) c_15
    refine j_iconst h (q := 19) (-1) dX2_ofMove_18 rfl (by decide) ?_
    refine j_iret h rfl dX2_ofMove_19 ?_
    exact ⟨_, rfl, by rw [hs], _, rfl, R⟩

set_option maxRecDepth 100000 in
set_option maxHeartbeats 4000000 in
theorem X_buried (g : jG) (w : jW) (X : Xs) (σ : Sg) (S : SI σ) (R : XR X σ) (a : Int32) {p0 i0 : Nat} (hl : inn 104 a → p0 < 22 ∧ i0 < qn (zg σ) p0 ∧ qc (zg σ) p0 i0 = vv a)  : ConI g 4 yX2_buried cX2_buried 4 (some (.int)) [.ref (gr g 0), .int a] (xw g w X) (fun x w' => x = spBuried (zg σ) p0 i0 a ∧ ∃ X', w' = xw g w X' ∧ XR X' σ) := by
  refine con_of (by decide +kernel) (Nat.le_of_ble_eq_true rfl) [(0, _), (1, _)] rfl (fun K h => ?_)
  by_cases ha : inn 104 a
  · obtain ⟨hp, hi, hq⟩ := hl ha
    obtain ⟨k, hk, rfl, hvk⟩ := inn_of (by decide) ha
    rw [hvk] at hq
    have hn := G_n2 S.1 hp
    have hs : spBuried (zg σ) p0 i0 (nI k) = nI (qn (zg σ) p0 - 1 - i0 + bif (!qo (zg σ) && someA (zg σ) k 8) then 1000 else 0) := by unfold spBuried; rw [if_pos ha, hvk]
    refine j_iload_n h (q := 1) 1 dX2_buried_0 rfl rfl ?_
    refine j_bipush h (q := 3) (104) dX2_buried_1 rfl (by decide) ?_
    refine j_cS h (q := 6) mo_X2_isBelow mS_X2_isBelow mL_X2_79 (c_X2_isBelow g _ _ _) (by decide) rfl rfl (Nat.le_of_ble_eq_true rfl) dX2_buried_3 rfl ?_
    rintro _ w3 ⟨x3, rfl, e⟩
    obtain ⟨e1, rfl⟩ := e
    obtain rfl : x3 = 1 := e1.trans (b2i_dt (show ¬ (nI k) < 0 ∧ (nI k) < 104 from ha)).symm
    refine j_if_ne h (tgt := 11) (q := 9) dX2_buried_6 rfl (by decide) (fun c_6 => ?_) (fun c_6 => ?_)
    rotate_left
    · exact absurd (show (1 : Int32) = 0 from c_6) (by decide)
    refine j_aload_n h (q := 12) 0 dX2_buried_11 rfl rfl ?_
    refine j_get h (q := 15) inX2 (C := RX2) (T := TX2) (N := 9) (ci := 2) rfl 0 (by decide) mF_X2_10 (by decide) (xw_0 _ _ _) rfl dX2_buried_12 rfl ?_
    refine j_iload_n h (q := 16) 1 dX2_buried_15 rfl rfl ?_
    refine j_cV h (q := 19) (C := RX1) (T := TX1) (N := 9) (ci := 1) mo_X1_pileWith mI_X1_pileWith mV_X1_pileWith mL_X2_116 (xw_con (i := 0) (by decide) (c_pileWith g _ _ (by decide) (xtab X (7 + 6 * 0)) (zg σ) R.1 S.1 (k := k) hp hi hq)) (by decide) (by decide) (xw_r g _ _ (i := 0) (by decide)) rfl rfl rfl (Nat.le_of_ble_eq_true rfl) dX2_buried_16 rfl ?_
    rintro _ w16 ⟨x16, rfl, e⟩
    obtain ⟨rfl, rfl⟩ := e
    rw [xw_tab g w _ (show 0 < 10 by decide)]
    refine j_istore_n h (q := 20) (loc' := [(2, _), (0, _), (1, _)]) dX2_buried_19 rfl (by decide) rfl ?_
    refine j_aload_n h (q := 21) 1 dX2_buried_20 rfl rfl ?_
    refine j_get h (q := 24) inX2 (C := RX2) (T := TX2) (N := 9) (ci := 2) rfl 0 (by decide) mF_X2_10 (by decide) (xw_0 _ _ _) rfl dX2_buried_21 rfl ?_
    refine j_iload_n h (q := 25) 0 dX2_buried_24 rfl rfl ?_
    refine j_cV h (q := 28) (C := RX1) (T := TX1) (N := 9) (ci := 1) mo_X1_sizeOf mI_X1_sizeOf mV_X1_sizeOf mL_X2_107 (xw_con (i := 0) (by decide) (c_size g _ _ (by decide) (xtab X (7 + 6 * 0)) (zg σ) R.1 rfl hp)) (by decide) (by decide) (xw_r g _ _ (i := 0) (by decide)) rfl rfl rfl (Nat.le_of_ble_eq_true rfl) dX2_buried_25 rfl ?_
    rintro _ w25 ⟨x25, rfl, e⟩
    obtain ⟨rfl, rfl⟩ := e
    rw [xw_tab g w _ (show 0 < 10 by decide)]
    refine j_iconst h (q := 29) (1) dX2_buried_28 rfl (by decide) ?_
    refine j_isub h (q := 30) dX2_buried_29 rfl ?_
    refine j_aload_n h (q := 31) 1 dX2_buried_30 rfl rfl ?_
    refine j_get h (q := 34) inX2 (C := RX2) (T := TX2) (N := 9) (ci := 2) rfl 0 (by decide) mF_X2_10 (by decide) (xw_0 _ _ _) rfl dX2_buried_31 rfl ?_
    refine j_iload_n h (q := 35) 0 dX2_buried_34 rfl rfl ?_
    refine j_iload_n h (q := 36) 2 dX2_buried_35 rfl rfl ?_
    refine j_cV h (q := 39) (C := RX1) (T := TX1) (N := 9) (ci := 1) mo_X1_placeIn mI_X1_placeIn mV_X1_placeIn mL_X2_119 (xw_con (i := 0) (by decide) (c_placeIn g _ _ (by decide) (xtab X (7 + 6 * 0)) (zg σ) R.1 S.1 hp hk (r := some i0) ⟨hi, hq⟩ rfl)) (by decide) (by decide) (xw_r g _ _ (i := 0) (by decide)) rfl rfl rfl (Nat.le_of_ble_eq_true rfl) dX2_buried_36 rfl ?_
    rintro _ w36 ⟨x36, rfl, e⟩
    obtain ⟨rfl, rfl⟩ := e
    rw [xw_tab g w _ (show 0 < 10 by decide)]
    refine j_isub h (q := 40) dX2_buried_39 rfl ?_
    rw [i_subL (by omega), show ov (some i0) = nI i0 from rfl, nI_sub (by omega)]
    refine j_istore_n h (q := 41) (loc' := [(3, _), (2, _), (0, _), (1, _)]) dX2_buried_40 rfl (by decide) rfl ?_
    refine j_aload_n h (q := 42) 2 dX2_buried_41 rfl rfl ?_
    refine j_get h (q := 45) inX2 (C := RX2) (T := TX2) (N := 9) (ci := 2) rfl 0 (by decide) mF_X2_10 (by decide) (xw_0 _ _ _) rfl dX2_buried_42 rfl ?_
    refine j_iload_n h (q := 46) 3 dX2_buried_45 rfl rfl ?_
    refine j_cV h (q := 49) (C := RX1) (T := TX1) (N := 9) (ci := 1) mo_X1_fitsAnAcesPile mI_X1_fitsAnAcesPile mV_X1_fitsAnAcesPile mL_X2_174 (xw_con (i := 0) (by decide) (c_fitsAnAcesPile g _ _ (by decide) (xtab X (7 + 6 * 0)) (zg σ) R.1 S.1 hk)) (by decide) (by decide) (xw_r g _ _ (i := 0) (by decide)) rfl rfl rfl (Nat.le_of_ble_eq_true rfl) dX2_buried_46 rfl ?_
    rintro _ w46 ⟨x46, rfl, e⟩
    obtain ⟨rfl, rfl⟩ := e
    rw [xw_tab g w _ (show 0 < 10 by decide)]
    refine j_if_eq h (tgt := 60) (q := 52) dX2_buried_49 rfl (by decide) (fun c_49 => ?_) (fun c_49 => ?_)
    · rw [b2i_0] at c_49
      refine j_iload_n h (q := 61) 0 dX2_buried_60 rfl rfl ?_
      refine j_iret h rfl dX2_buried_61 ?_
      exact ⟨_, rfl, by rw [hs, c_49]; rfl, X, rfl, R⟩
    · rw [b2i_1] at c_49
      refine j_sipush h (q := 55) (1000) dX2_buried_52 rfl (by decide) ?_
      refine j_iload_n h (q := 56) 0 dX2_buried_55 rfl rfl ?_
      refine j_iadd h (q := 57) dX2_buried_56 rfl ?_
      refine j_goto h (tgt := 61) dX2_buried_57 (by decide) ?_
      refine j_iret h rfl dX2_buried_61 ?_
      exact ⟨_, rfl, by rw [hs, c_49, i_Ladd]; congr 1; exact Nat.add_comm _ _, X, rfl, R⟩
  · have hs : spBuried (zg σ) p0 i0 a = -1 := if_neg ha
    refine j_iload_n h (q := 1) 1 dX2_buried_0 rfl rfl ?_
    refine j_bipush h (q := 3) (104) dX2_buried_1 rfl (by decide) ?_
    refine j_cS h (q := 6) mo_X2_isBelow mS_X2_isBelow mL_X2_79 (c_X2_isBelow g _ _ _) (by decide) rfl rfl (Nat.le_of_ble_eq_true rfl) dX2_buried_3 rfl ?_
    rintro _ w3 ⟨x3, rfl, e⟩
    obtain ⟨e1, rfl⟩ := e
    obtain rfl : x3 = 0 := e1.trans (b2i_df (show ¬ (¬ a < 0 ∧ a < 104) from ha)).symm
    refine j_if_ne h (tgt := 11) (q := 9) dX2_buried_6 rfl (by decide) (fun c_6 => ?_) (fun c_6 => ?_)
    · exact absurd (show (0 : Int32) = 0 from rfl) c_6
    refine j_iconst h (q := 10) (-1) dX2_buried_9 rfl (by decide) ?_
    refine j_iret h rfl dX2_buried_10 ?_
    exact ⟨_, rfl, by first | (rw [hs]; done) | (rw [hs]; rfl), X, rfl, R⟩

set_option maxRecDepth 100000 in
set_option maxHeartbeats 4000000 in
theorem X_ifPlayed (g : jG) (w : jW) (X : Xs) (σ : Sg) (S : SI σ) (R : XR X σ) (a b : Int32)  : ConI g 6 yX2_ifPlayed cX2_ifPlayed 3 (some (.int)) [.ref (gr g 0), .int a, .int b] (xw g w X) (fun x w' => x = spIf (zg σ) a b ∧ ∃ X', w' = xw g w X' ∧ XR X' σ) := by
  refine con_of (by decide +kernel) (Nat.le_of_ble_eq_true rfl) [(0, _), (1, _), (2, _)] rfl (fun K h => ?_)
  by_cases ha : (¬ a < 1 ∧ ¬ 200 < a) ∧ ¬ b < 0 ∧ ¬ 3 < b
  · obtain ⟨k, hk, rfl, hvk⟩ := inn_of (n := 201) (by decide) (inn_1 ha.1.1 ha.1.2 (by decide))
    have hs : spIf (zg σ) (nI k) b = (if b = 0 then qp (playG k (zg σ)) 0 else if b = 1 then qp (playG k (zg σ)) 1 else if b = 2 then nI (acesG (playG k (zg σ)) 8) else nI (qd (playG k (zg σ))) - nI (qd (zg σ))) := by unfold spIf; rw [if_pos ha, hvk]
    refine j_iload_n h (q := 1) 1 dX2_ifPlayed_0 rfl rfl ?_
    refine j_iconst h (q := 2) (1) dX2_ifPlayed_1 rfl (by decide) ?_
    refine j_icmp_lt h (tgt := 21) (q := 5) dX2_ifPlayed_2 rfl (by decide) (fun c_2 => ?_) (fun c_2 => ?_)
    · exact absurd c_2 ha.1.1
    refine j_iload_n h (q := 6) 1 dX2_ifPlayed_5 rfl rfl ?_
    refine j_sipush h (q := 9) (200) dX2_ifPlayed_6 rfl (by decide) ?_
    refine j_icmp_gt h (tgt := 21) (q := 12) dX2_ifPlayed_9 rfl (by decide) (fun c_9 => ?_) (fun c_9 => ?_)
    · exact absurd c_9 ha.1.2
    refine j_iload_n h (q := 13) 2 dX2_ifPlayed_12 rfl rfl ?_
    refine j_if_lt h (tgt := 21) (q := 16) dX2_ifPlayed_13 rfl (by decide) (fun c_13 => ?_) (fun c_13 => ?_)
    · exact absurd c_13 ha.2.1
    refine j_iload_n h (q := 17) 2 dX2_ifPlayed_16 rfl rfl ?_
    refine j_iconst h (q := 18) (3) dX2_ifPlayed_17 rfl (by decide) ?_
    refine j_icmp_le h (tgt := 24) (q := 21) dX2_ifPlayed_18 rfl (by decide) (fun c_18 => ?_) (fun c_18 => ?_)
    rotate_left
    · exact absurd (Int32.not_le.mp c_18) ha.2.2
    refine j_aload_n h (q := 25) 0 dX2_ifPlayed_24 rfl rfl ?_
    refine j_get h (q := 28) inX2 (C := RX2) (T := TX2) (N := 9) (ci := 2) rfl 0 (by decide) mF_X2_10 (by decide) (xw_0 _ _ _) rfl dX2_ifPlayed_25 rfl ?_
    refine j_aload_n h (q := 29) 0 dX2_ifPlayed_28 rfl rfl ?_
    refine j_get h (q := 32) inX2 (C := RX2) (T := TX2) (N := 9) (ci := 2) rfl 1 (by decide) mF_X2_16 (by decide) (xw_0 _ _ _) rfl dX2_ifPlayed_29 rfl ?_
    rw [xw_2t g w X (i := 0) (j := 1) (by decide) (by decide)]
    refine j_cS h (q := 35) mo_X2_copyTable mS_X2_copyTable mL_X2_170 (c_copyTable g _ (t := 7 + 6 * 0) (u := 7 + 6 * 1) (by decide) (by decide) (by decide) _ _ (R_ov R.1)) (by decide) rfl rfl (Nat.le_of_ble_eq_true rfl) dX2_ifPlayed_32 rfl ?_
    rintro _ w32 ⟨rfl, e⟩
    obtain ⟨U, rfl, hcp⟩ := e
    have hX : yTab (yTab X 1 U) 0 (xtab X (7 + 6 * 0)) = yTri X U := rfl
    rw [xw_2u g w X (by decide) (by decide), hX]
    have RU : TR (xtab (yTri X U) (7 + 6 * 1)) (zg σ) := CPY_TR hcp R.1 S.1
    refine j_aload_n h (q := 36) 0 dX2_ifPlayed_35 rfl rfl ?_
    refine j_aload_n h (q := 37) 0 dX2_ifPlayed_36 rfl rfl ?_
    refine j_get h (q := 40) inX2 (C := RX2) (T := TX2) (N := 9) (ci := 2) rfl 1 (by decide) mF_X2_16 (by decide) (xw_0 _ _ _) rfl dX2_ifPlayed_37 rfl ?_
    refine j_iload_n h (q := 41) 1 dX2_ifPlayed_40 rfl rfl ?_
    refine j_cV h (q := 44) (C := RX2) (T := TX2) (N := 9) (ci := 2) mo_X2_playByRule mI_X2_playByRule mV_X2_playByRule mL_X2_88 (c_playByRule g _ _ (i := 1) (by decide) (steps := k) (by omega) (zg σ) RU S.1) (by decide) (by decide) (xw_0 _ _ _) rfl rfl rfl (Nat.le_of_ble_eq_true rfl) dX2_ifPlayed_41 rfl ?_
    rintro _ w41 ⟨x41, rfl, e⟩
    obtain ⟨rfl, f, T2, rfl, R2⟩ := e
    have G2 := GI_play k _ S.1
    refine j_pop h (q := 45) dX2_ifPlayed_44 rfl rfl ?_
    refine j_iload_n h (q := 46) 2 dX2_ifPlayed_45 rfl rfl ?_
    by_cases hsw46 : (b).toInt < 0 ∨ 2 < (b).toInt
    · refine j_tableOut h (tgt := 104) dX2_ifPlayed_46 hsw46 (by decide) ?_
      refine j_aload_n h (q := 105) 0 dX2_ifPlayed_104 rfl rfl ?_
      refine j_get h (q := 108) inX2 (C := RX2) (T := TX2) (N := 9) (ci := 2) rfl 1 (by decide) mF_X2_16 (by decide) (xw_0 _ _ _) rfl dX2_ifPlayed_105 rfl ?_
      refine j_get h (q := 111) inX1 (C := RX1) (T := TX1) (N := 9) (ci := 1) rfl 6 (by decide) mF_X2_141 (by decide) (xw_r g _ _ (i := 1) (by decide)) rfl dX2_ifPlayed_108 rfl ?_
      refine j_aload_n h (q := 112) 0 dX2_ifPlayed_111 rfl rfl ?_
      refine j_get h (q := 115) inX2 (C := RX2) (T := TX2) (N := 9) (ci := 2) rfl 0 (by decide) mF_X2_10 (by decide) (xw_0 _ _ _) rfl dX2_ifPlayed_112 rfl ?_
      refine j_get h (q := 118) inX1 (C := RX1) (T := TX1) (N := 9) (ci := 1) rfl 6 (by decide) mF_X2_141 (by decide) (xw_r g _ _ (i := 0) (by decide)) rfl dX2_ifPlayed_115 rfl ?_
      refine j_isub h (q := 119) dX2_ifPlayed_118 rfl ?_
      refine j_iret h rfl dX2_ifPlayed_119 ?_
      have hb3 : ¬ b = 0 ∧ ¬ b = 1 ∧ ¬ b = 2 := ⟨sw_out (n := 2) (k := 0) hsw46 (by decide) (by decide), sw_out (n := 2) (k := 1) hsw46 (by decide) (by decide), sw_out (n := 2) (k := 2) hsw46 (by decide) (by decide)⟩
      refine ⟨_, rfl, ?_, _, rfl, R⟩
      rw [hs, if_neg hb3.1, if_neg hb3.2.1, if_neg hb3.2.2]
      show Tdr T2 - Tdr (Xnow X) = _
      rw [R_dr R2, R_dr R.1]
    by_cases hs46_0 : b = 0
    · subst hs46_0
      refine j_tableIn h (tgt := 72) dX2_ifPlayed_46 (by decide) (by decide) rfl (by decide) ?_
      refine j_aload_n h (q := 73) 0 dX2_ifPlayed_72 rfl rfl ?_
      refine j_get h (q := 76) inX2 (C := RX2) (T := TX2) (N := 9) (ci := 2) rfl 1 (by decide) mF_X2_16 (by decide) (xw_0 _ _ _) rfl dX2_ifPlayed_73 rfl ?_
      refine j_get h (q := 79) inX1 (C := RX1) (T := TX1) (N := 9) (ci := 1) rfl 2 (by decide) mF_X2_122 (by decide) (xw_r g _ _ (i := 1) (by decide)) rfl dX2_ifPlayed_76 rfl ?_
      refine j_iconst h (q := 80) (0) dX2_ifPlayed_79 rfl (by decide) ?_
      refine j_cS h (q := 83) mo_X2_at mS_X2_at mL_X2_125 (c_X2_at g _ (z := 7 + 6 * 1 + 3) (n := 2) (by decide) (show xw g w (yTab (yMv (yTri X U) f) 1 T2) (7 + 6 * 1 + 3) = _ from (xw_t g w _ (i := 1) (by decide) (k := 3) (by decide))) (by decide) _) (by decide) rfl rfl (Nat.le_of_ble_eq_true rfl) dX2_ifPlayed_80 rfl ?_
      rintro _ w80 ⟨x80, rfl, e⟩
      obtain ⟨rfl, rfl⟩ := e
      rw [show ati 2 (Tpt (xtab (yTab (yMv (yTri X U) f) 1 T2) (7 + 6 * 1))) 0 = qp (playG k (zg σ)) 0 from (ati_n (k := 0) (by decide) (by decide)).trans (R_pt R2 (by decide))]
      refine j_iret h rfl dX2_ifPlayed_83 ?_
      refine ⟨_, rfl, ?_, _, rfl, R⟩
      rw [hs]
      first | rfl | (simp; done) | (simp; rfl)
    by_cases hs46_1 : b = 1
    · subst hs46_1
      refine j_tableIn h (tgt := 84) dX2_ifPlayed_46 (by decide) (by decide) rfl (by decide) ?_
      refine j_aload_n h (q := 85) 0 dX2_ifPlayed_84 rfl rfl ?_
      refine j_get h (q := 88) inX2 (C := RX2) (T := TX2) (N := 9) (ci := 2) rfl 1 (by decide) mF_X2_16 (by decide) (xw_0 _ _ _) rfl dX2_ifPlayed_85 rfl ?_
      refine j_get h (q := 91) inX1 (C := RX1) (T := TX1) (N := 9) (ci := 1) rfl 2 (by decide) mF_X2_122 (by decide) (xw_r g _ _ (i := 1) (by decide)) rfl dX2_ifPlayed_88 rfl ?_
      refine j_iconst h (q := 92) (1) dX2_ifPlayed_91 rfl (by decide) ?_
      refine j_cS h (q := 95) mo_X2_at mS_X2_at mL_X2_125 (c_X2_at g _ (z := 7 + 6 * 1 + 3) (n := 2) (by decide) (show xw g w (yTab (yMv (yTri X U) f) 1 T2) (7 + 6 * 1 + 3) = _ from (xw_t g w _ (i := 1) (by decide) (k := 3) (by decide))) (by decide) _) (by decide) rfl rfl (Nat.le_of_ble_eq_true rfl) dX2_ifPlayed_92 rfl ?_
      rintro _ w92 ⟨x92, rfl, e⟩
      obtain ⟨rfl, rfl⟩ := e
      rw [show ati 2 (Tpt (xtab (yTab (yMv (yTri X U) f) 1 T2) (7 + 6 * 1))) 1 = qp (playG k (zg σ)) 1 from (ati_n (k := 1) (by decide) (by decide)).trans (R_pt R2 (by decide))]
      refine j_iret h rfl dX2_ifPlayed_95 ?_
      refine ⟨_, rfl, ?_, _, rfl, R⟩
      rw [hs]
      first | rfl | (simp; done) | (simp; rfl)
    have hs46_2 : b = 2 := sw_last3 (b) hsw46 hs46_0 hs46_1
    subst hs46_2
    refine j_tableIn h (tgt := 96) dX2_ifPlayed_46 (by decide) (by decide) rfl (by decide) ?_
    refine j_aload_n h (q := 97) 0 dX2_ifPlayed_96 rfl rfl ?_
    refine j_get h (q := 100) inX2 (C := RX2) (T := TX2) (N := 9) (ci := 2) rfl 1 (by decide) mF_X2_16 (by decide) (xw_0 _ _ _) rfl dX2_ifPlayed_97 rfl ?_
    refine j_cV h (q := 103) (C := RX1) (T := TX1) (N := 9) (ci := 1) mo_X1_onAces mI_X1_onAces mV_X1_onAces mL_X2_147 (xw_con (i := 1) (by decide) (c_onAces g _ _ (by decide) (xtab (yTab (yMv (yTri X U) f) 1 T2) (7 + 6 * 1)) (playG k (zg σ)) R2 G2)) (by decide) (by decide) (xw_r g _ _ (i := 1) (by decide)) rfl rfl rfl (Nat.le_of_ble_eq_true rfl) dX2_ifPlayed_100 rfl ?_
    rintro _ w100 ⟨x100, rfl, e⟩
    obtain ⟨rfl, rfl⟩ := e
    rw [xw_tab g w _ (show 1 < 10 by decide)]
    refine j_iret h rfl dX2_ifPlayed_103 ?_
    refine ⟨_, rfl, ?_, _, rfl, R⟩
    rw [hs]
    first | rfl | (simp; done) | (simp; rfl)
  · have hs : spIf (zg σ) a b = -2 := if_neg ha
    refine j_iload_n h (q := 1) 1 dX2_ifPlayed_0 rfl rfl ?_
    refine j_iconst h (q := 2) (1) dX2_ifPlayed_1 rfl (by decide) ?_
    refine j_icmp_lt h (tgt := 21) (q := 5) dX2_ifPlayed_2 rfl (by decide) (fun c_2 => ?_) (fun c_2 => ?_)
    · refine j_bipush h (q := 23) (-2) dX2_ifPlayed_21 rfl (by decide) ?_
      refine j_iret h rfl dX2_ifPlayed_23 ?_
      exact ⟨_, rfl, by first | (rw [hs]; done) | (rw [hs]; rfl), X, rfl, R⟩
    · refine j_iload_n h (q := 6) 1 dX2_ifPlayed_5 rfl rfl ?_
      refine j_sipush h (q := 9) (200) dX2_ifPlayed_6 rfl (by decide) ?_
      refine j_icmp_gt h (tgt := 21) (q := 12) dX2_ifPlayed_9 rfl (by decide) (fun c_9 => ?_) (fun c_9 => ?_)
      · refine j_bipush h (q := 23) (-2) dX2_ifPlayed_21 rfl (by decide) ?_
        refine j_iret h rfl dX2_ifPlayed_23 ?_
        exact ⟨_, rfl, by first | (rw [hs]; done) | (rw [hs]; rfl), X, rfl, R⟩
      · refine j_iload_n h (q := 13) 2 dX2_ifPlayed_12 rfl rfl ?_
        refine j_if_lt h (tgt := 21) (q := 16) dX2_ifPlayed_13 rfl (by decide) (fun c_13 => ?_) (fun c_13 => ?_)
        · refine j_bipush h (q := 23) (-2) dX2_ifPlayed_21 rfl (by decide) ?_
          refine j_iret h rfl dX2_ifPlayed_23 ?_
          exact ⟨_, rfl, by first | (rw [hs]; done) | (rw [hs]; rfl), X, rfl, R⟩
        · refine j_iload_n h (q := 17) 2 dX2_ifPlayed_16 rfl rfl ?_
          refine j_iconst h (q := 18) (3) dX2_ifPlayed_17 rfl (by decide) ?_
          refine j_icmp_le h (tgt := 24) (q := 21) dX2_ifPlayed_18 rfl (by decide) (fun c_18 => ?_) (fun c_18 => ?_)
          · exact absurd ⟨⟨c_2, Int32.not_lt.mpr (by first | exact Int32.not_lt.mp c_9 | exact c_9)⟩, c_13, Int32.not_lt.mpr c_18⟩ ha
          refine j_bipush h (q := 23) (-2) dX2_ifPlayed_21 rfl (by decide) ?_
          refine j_iret h rfl dX2_ifPlayed_23 ?_
          exact ⟨_, rfl, by first | (rw [hs]; done) | (rw [hs]; rfl), X, rfl, R⟩

theorem undo_y (X : Xs) (U : Ts) {k : Nat} (hk : k < 6) : yTab (yTab X 0 U) (2 + k) (xtab X (7 + 6 * (2 + k))) = yNow X U := by
  rw [xt_p X hk]
  unfold yTab
  rw [if_pos rfl, if_neg (by omega), if_neg (by omega), if_pos (by omega), show 2 + k - 2 = k by omega]
  have e : (fun j => if j = k then Xpa X k else Xpa (yNow X U) j) = Xpa X := by
    funext j
    by_cases z : j = k
    · rw [if_pos z, z]
    · rw [if_neg z]
  rw [e]
theorem save_y (X : Xs) (U T : Ts) {k : Nat} (hk : k < 2) : yTab (yTab X (8 + k) U) 0 T = (T, X.2.1, X.2.2.1, (fun j => if j = k then U else Xsl X j), X.2.2.2.2) := by
  unfold yTab
  rw [if_pos rfl, if_neg (by omega), if_neg (by omega), if_neg (by omega), show 8 + k - 8 = k by omega]
theorem rest_y (X : Xs) (U : Ts) {k : Nat} (hk : k < 2) : yTab (yTab X 0 U) (8 + k) (xtab X (7 + 6 * (8 + k))) = yNow X U := by
  rw [xt_s X hk]
  unfold yTab
  rw [if_pos rfl, if_neg (by omega), if_neg (by omega), if_neg (by omega), show 8 + k - 8 = k by omega]
  have e : (fun j => if j = k then Xsl X k else Xsl (yNow X U) j) = Xsl X := by
    funext j
    by_cases z : j = k
    · rw [if_pos z, z]
    · rw [if_neg z]
  rw [e]

set_option maxRecDepth 100000 in
set_option maxHeartbeats 4000000 in
theorem X_undo (g : jG) (w : jW) (X : Xs) (σ : Sg) (S : SI σ) (R : XR X σ)  : ConI g 3 yX2_undo cX2_undo 1 (some (.int)) [.ref (gr g 0)] (xw g w X) (fun x w' => x = (spUndo σ).1 ∧ ∃ X', w' = xw g w X' ∧ XR X' (spUndo σ).2) := by
  refine con_of (by decide +kernel) (Nat.le_of_ble_eq_true rfl) [(0, _)] rfl (fun K h => ?_)
  have hz6 := S.2.1
  by_cases hz : zn σ = 0
  · have hs : spUndo σ = (-5, σ) := if_pos hz
    refine j_aload_n h (q := 1) 0 dX2_undo_0 rfl rfl ?_
    refine j_get h (q := 4) inX2 (C := RX2) (T := TX2) (N := 9) (ci := 2) rfl 8 (by decide) mF_X2_45 (by decide) (xw_0 _ _ _) rfl dX2_undo_1 rfl ?_
    refine j_iconst h (q := 5) (1) dX2_undo_4 rfl (by decide) ?_
    rw [show Xud X = nI (zn σ) from R.2.1]
    refine j_icmp_ge h (tgt := 11) (q := 8) dX2_undo_5 rfl (by decide) (fun c_5 => ?_) (fun c_5 => ?_)
    · exact absurd c_5 (by rw [i_Lle (by omega) (by decide)]; omega)
    refine j_bipush h (q := 10) (-5) dX2_undo_8 rfl (by decide) ?_
    refine j_iret h rfl dX2_undo_10 ?_
    refine ⟨_, rfl, by rw [hs], X, rfl, by rw [hs]; exact R⟩
  · have hs : spUndo σ = (nI (zn σ - 1), (zh σ 0, zn σ - 1, (fun i => zh σ (i + 1)), zs σ, zl σ, zc σ)) := if_neg hz
    obtain ⟨r1, r2, ⟨np, hnp, r3, r4⟩, r5, r6, r7⟩ := id R
    have r8 := r4 0 (by omega)
    refine j_aload_n h (q := 1) 0 dX2_undo_0 rfl rfl ?_
    refine j_get h (q := 4) inX2 (C := RX2) (T := TX2) (N := 9) (ci := 2) rfl 8 (by decide) mF_X2_45 (by decide) (xw_0 _ _ _) rfl dX2_undo_1 rfl ?_
    refine j_iconst h (q := 5) (1) dX2_undo_4 rfl (by decide) ?_
    rw [show Xud X = nI (zn σ) from R.2.1]
    refine j_icmp_ge h (tgt := 11) (q := 8) dX2_undo_5 rfl (by decide) (fun c_5 => ?_) (fun c_5 => ?_)
    rotate_left
    · exact absurd (by rw [i_Lle (by omega) (by decide)]; omega) c_5
    refine j_aload_n h (q := 12) 0 dX2_undo_11 rfl rfl ?_
    refine j_aload_n h (q := 13) 0 dX2_undo_12 rfl rfl ?_
    refine j_get h (q := 16) inX2 (C := RX2) (T := TX2) (N := 9) (ci := 2) rfl 7 (by decide) mF_X2_41 (by decide) (xw_0 _ _ _) rfl dX2_undo_13 rfl ?_
    refine j_iconst h (q := 17) (1) dX2_undo_16 rfl (by decide) ?_
    refine j_isub h (q := 18) dX2_undo_17 rfl ?_
    refine j_bipush h (q := 20) (6) dX2_undo_18 rfl (by decide) ?_
    refine j_cS h (q := 23) mo_J9_floorMod_7cf53 mS_J9_floorMod_7cf53 mL_X2_185 (c_J9_floorMod_7cf53 g _ _ _ (by decide)) (by decide) rfl rfl (Nat.le_of_ble_eq_true rfl) dX2_undo_20 rfl ?_
    rintro _ w20 ⟨x20, rfl, e⟩
    obtain ⟨e1, rfl⟩ := e
    obtain rfl : x20 = nI ((np + 5) % 6) := e1.trans (by show fmj (Xnp X - 1) 6 = _; rw [r3]; exact fm_dn np hnp)
    refine j_put h (q := 26) inX2 (C := RX2) (T := TX2) (N := 9) (ci := 2) rfl tyX2_ok nmX2 7 (by decide) mF_X2_41 rfl rfl rfl (by first | rfl | decide) (by decide) (xw_0 _ _ _) (Nat.le_of_ble_eq_true rfl) dX2_undo_23 rfl ?_
    refine j_stk rfl xw_u0 ?_
    refine j_aload_n h (q := 27) 0 dX2_undo_26 rfl rfl ?_
    refine j_dup h (q := 28) dX2_undo_27 rfl rfl ?_
    refine j_get h (q := 31) inX2 (C := RX2) (T := TX2) (N := 9) (ci := 2) rfl 8 (by decide) mF_X2_45 (by decide) (xw_0 _ _ _) rfl dX2_undo_28 rfl ?_
    refine j_iconst h (q := 32) (1) dX2_undo_31 rfl (by decide) ?_
    refine j_isub h (q := 33) dX2_undo_32 rfl ?_
    refine j_put h (q := 36) inX2 (C := RX2) (T := TX2) (N := 9) (ci := 2) rfl tyX2_ok nmX2 8 (by decide) mF_X2_45 rfl rfl rfl (by first | rfl | decide) (by decide) (xw_0 _ _ _) (Nat.le_of_ble_eq_true rfl) dX2_undo_33 rfl ?_
    rw [show Xud (yUd (yNp X (nI ((np + 5) % 6))) (Xud X)) - 1 = nI (zn σ - 1) from by show Xud X - 1 = _; rw [r2]; exact i_subL (by omega)]
    refine j_stk rfl xw_u0 ?_
    refine j_aload_n h (q := 37) 0 dX2_undo_36 rfl rfl ?_
    refine j_get h (q := 40) inX2 (C := RX2) (T := TX2) (N := 9) (ci := 2) rfl 2 (by decide) mF_X2_19 (by decide) (xw_0 _ _ _) rfl dX2_undo_37 rfl ?_
    refine j_aload_n h (q := 41) 0 dX2_undo_40 rfl rfl ?_
    refine j_get h (q := 44) inX2 (C := RX2) (T := TX2) (N := 9) (ci := 2) rfl 7 (by decide) mF_X2_41 (by decide) (xw_0 _ _ _) rfl dX2_undo_41 rfl ?_
    refine j_cS h (q := 47) mo_X2_tableAt mS_X2_tableAt mL_X2_190 (c_tableAt g _ (z := 2) (n := 6) (b := 19) (k := (np + 5) % 6) (by decide) (xw_2 _ _ _) (by omega) (by decide)) (by decide) rfl rfl (Nat.le_of_ble_eq_true rfl) dX2_undo_44 rfl ?_
    rintro _ w44 ⟨x44, rfl, e⟩
    obtain ⟨rfl, rfl⟩ := e
    rw [show 19 + 6 * ((np + 5) % 6) = 7 + 6 * (2 + (np + 5) % 6) by omega]
    refine j_aload_n h (q := 48) 0 dX2_undo_47 rfl rfl ?_
    refine j_get h (q := 51) inX2 (C := RX2) (T := TX2) (N := 9) (ci := 2) rfl 0 (by decide) mF_X2_10 (by decide) (xw_0 _ _ _) rfl dX2_undo_48 rfl ?_
    rw [xw_2t g w (yUd (yNp X (nI ((np + 5) % 6))) (nI (zn σ - 1))) (i := 2 + (np + 5) % 6) (j := 0) (by omega) (by decide)]
    refine j_cS h (q := 54) mo_X2_copyTable mS_X2_copyTable mL_X2_170 (c_copyTable g _ (t := 7 + 6 * (2 + (np + 5) % 6)) (u := 7 + 6 * 0) (nw6 (by omega)) (by decide) (by omega) (xtab (yUd (yNp X (nI ((np + 5) % 6))) (nI (zn σ - 1))) (7 + 6 * (2 + (np + 5) % 6))) _ (ob := qo (zh σ 0)) (by rw [xt_p _ (show (np + 5) % 6 < 6 by omega)]; exact R_ov r8)) (by decide) rfl rfl (Nat.le_of_ble_eq_true rfl) dX2_undo_51 rfl ?_
    rintro _ w51 ⟨rfl, e⟩
    obtain ⟨U, rfl, hcp⟩ := e
    rw [xt_p (yUd (yNp X (nI ((np + 5) % 6))) (nI (zn σ - 1))) (show (np + 5) % 6 < 6 by omega)] at hcp
    rw [xw_2u g w (yUd (yNp X (nI ((np + 5) % 6))) (nI (zn σ - 1))) (i := 2 + (np + 5) % 6) (j := 0) (by omega) (by decide), undo_y (yUd (yNp X (nI ((np + 5) % 6))) (nI (zn σ - 1))) U (show (np + 5) % 6 < 6 by omega)]
    refine j_aload_n h (q := 55) 0 dX2_undo_54 rfl rfl ?_
    refine j_get h (q := 58) inX2 (C := RX2) (T := TX2) (N := 9) (ci := 2) rfl 8 (by decide) mF_X2_45 (by decide) (xw_0 _ _ _) rfl dX2_undo_55 rfl ?_
    refine j_iret h rfl dX2_undo_58 ?_
    refine ⟨_, rfl, by rw [hs], _, rfl, ?_⟩
    rw [hs]
    refine ⟨CPY_TR hcp r8 (S.2.2.1 0 (by omega)), rfl, ⟨(np + 5) % 6, by omega, rfl, fun i hi => ?_⟩, r5, r6, r7⟩
    have hi2 : i < zn σ - 1 := hi
    show TR (Xpa X (((np + 5) % 6 + 5 - i) % 6)) (zh σ (i + 1))
    rw [show ((np + 5) % 6 + 5 - i) % 6 = (np + 5 - (i + 1)) % 6 by omega]
    exact r4 (i + 1) (by omega)

set_option maxRecDepth 100000 in
set_option maxHeartbeats 4000000 in
theorem X_save (g : jG) (w : jW) (X : Xs) (σ : Sg) (S : SI σ) (R : XR X σ) (a : Int32)  : ConI g 3 yX2_save cX2_save 2 (some (.int)) [.ref (gr g 0), .int a] (xw g w X) (fun x w' => x = (spSave σ a).1 ∧ ∃ X', w' = xw g w X' ∧ XR X' (spSave σ a).2) := by
  refine con_of (by decide +kernel) (Nat.le_of_ble_eq_true rfl) [(0, _), (1, _)] rfl (fun K h => ?_)
  by_cases ha : inn 2 a
  · obtain ⟨k, hk, rfl, hvk⟩ := inn_of (by decide) ha
    have hs : spSave σ (nI k) = (nI (qd (zg σ)), (zg σ, zn σ, zh σ, (fun i => if i = k then some (zg σ) else zs σ i), zl σ, zc σ)) := by unfold spSave; rw [if_pos ha, hvk]
    obtain ⟨r1, r2, r3, r5, r6, r7⟩ := id R
    refine j_iload_n h (q := 1) 1 dX2_save_0 rfl rfl ?_
    refine j_aload_n h (q := 2) 0 dX2_save_1 rfl rfl ?_
    refine j_get h (q := 5) inX2 (C := RX2) (T := TX2) (N := 9) (ci := 2) rfl 4 (by decide) mF_X2_26 (by decide) (xw_0 _ _ _) rfl dX2_save_2 rfl ?_
    refine j_alen h (q := 6) 1 (nI 2) (by decide) (xw_4 _ _ _) rfl rfl dX2_save_5 rfl ?_
    refine j_cS h (q := 9) mo_X2_isBelow mS_X2_isBelow mL_X2_79 (c_X2_isBelow g _ _ _) (by decide) rfl rfl (Nat.le_of_ble_eq_true rfl) dX2_save_6 rfl ?_
    rintro _ w6 ⟨x6, rfl, e⟩
    obtain ⟨e1, rfl⟩ := e
    obtain rfl : x6 = 1 := e1.trans (b2i_dt (show ¬ (nI k) < 0 ∧ (nI k) < nI 2 from ha)).symm
    refine j_if_ne h (tgt := 15) (q := 12) dX2_save_9 rfl (by decide) (fun c_9 => ?_) (fun c_9 => ?_)
    rotate_left
    · exact absurd (show (1 : Int32) = 0 from c_9) (by decide)
    refine j_aload_n h (q := 16) 0 dX2_save_15 rfl rfl ?_
    refine j_get h (q := 19) inX2 (C := RX2) (T := TX2) (N := 9) (ci := 2) rfl 0 (by decide) mF_X2_10 (by decide) (xw_0 _ _ _) rfl dX2_save_16 rfl ?_
    refine j_aload_n h (q := 20) 0 dX2_save_19 rfl rfl ?_
    refine j_get h (q := 23) inX2 (C := RX2) (T := TX2) (N := 9) (ci := 2) rfl 3 (by decide) mF_X2_23 (by decide) (xw_0 _ _ _) rfl dX2_save_20 rfl ?_
    refine j_iload_n h (q := 24) 1 dX2_save_23 rfl rfl ?_
    refine j_cS h (q := 27) mo_X2_tableAt mS_X2_tableAt mL_X2_190 (c_tableAt g _ (z := 3) (n := 2) (b := 55) (k := k) (by decide) (xw_3 _ _ _) hk (by decide)) (by decide) rfl rfl (Nat.le_of_ble_eq_true rfl) dX2_save_24 rfl ?_
    rintro _ w24 ⟨x24, rfl, e⟩
    obtain ⟨rfl, rfl⟩ := e
    rw [show 55 + 6 * k = 7 + 6 * (8 + k) by omega, xw_2t g w X (i := 0) (j := 8 + k) (by decide) (by omega)]
    refine j_cS h (q := 30) mo_X2_copyTable mS_X2_copyTable mL_X2_170 (c_copyTable g _ (t := 7 + 6 * 0) (u := 7 + 6 * (8 + k)) (by decide) (nw6 (by omega)) (by omega) _ _ (R_ov r1)) (by decide) rfl rfl (Nat.le_of_ble_eq_true rfl) dX2_save_27 rfl ?_
    rintro _ w27 ⟨rfl, e⟩
    obtain ⟨U, rfl, hcp⟩ := e
    rw [xw_2u g w X (by decide) (by omega), save_y X U _ hk]
    refine j_aload_n h (q := 31) 0 dX2_save_30 rfl rfl ?_
    refine j_get h (q := 34) inX2 (C := RX2) (T := TX2) (N := 9) (ci := 2) rfl 4 (by decide) mF_X2_26 (by decide) (xw_0 _ _ _) rfl dX2_save_31 rfl ?_
    refine j_iload_n h (q := 35) 1 dX2_save_34 rfl rfl ?_
    refine j_iconst h (q := 36) (1) dX2_save_35 rfl (by decide) ?_
    refine j_zast h (q := 37) (by decide) (xw_4 _ _ _) (vp_in_nI hk (by decide)) dX2_save_36 rfl ?_
    rw [nI_clamp (by omega)]
    refine j_stk rfl xw_u4 ?_
    refine j_aload_n h (q := 38) 0 dX2_save_37 rfl rfl ?_
    refine j_get h (q := 41) inX2 (C := RX2) (T := TX2) (N := 9) (ci := 2) rfl 0 (by decide) mF_X2_10 (by decide) (xw_0 _ _ _) rfl dX2_save_38 rfl ?_
    refine j_get h (q := 44) inX1 (C := RX1) (T := TX1) (N := 9) (ci := 1) rfl 6 (by decide) mF_X2_141 (by decide) (xw_r g _ _ (i := 0) (by decide)) rfl dX2_save_41 rfl ?_
    refine j_iret h rfl dX2_save_44 ?_
    refine ⟨_, rfl, by rw [hs]; exact R_dr r1, _, rfl, ?_⟩
    rw [hs]
    refine ⟨r1, r2, r3, fun i hi => ?_, r6, r7⟩
    show ((if i = k then some (zg σ) else zs σ i) = none ∧ upd (Xsv X) k (vp_nar .boolean 1) i = 0) ∨ ∃ γ, (if i = k then some (zg σ) else zs σ i) = some γ ∧ upd (Xsv X) k (vp_nar .boolean 1) i = 1 ∧ TR (if i = k then U else Xsl X i) γ
    unfold upd
    by_cases z : i = k
    · rw [if_pos z, if_pos z, if_pos z]
      exact Or.inr ⟨zg σ, rfl, rfl, CPY_TR hcp r1 S.1⟩
    · rw [if_neg z, if_neg z, if_neg z]; exact r5 i hi
  · have hs : spSave σ a = (-2, σ) := if_neg ha
    refine j_iload_n h (q := 1) 1 dX2_save_0 rfl rfl ?_
    refine j_aload_n h (q := 2) 0 dX2_save_1 rfl rfl ?_
    refine j_get h (q := 5) inX2 (C := RX2) (T := TX2) (N := 9) (ci := 2) rfl 4 (by decide) mF_X2_26 (by decide) (xw_0 _ _ _) rfl dX2_save_2 rfl ?_
    refine j_alen h (q := 6) 1 (nI 2) (by decide) (xw_4 _ _ _) rfl rfl dX2_save_5 rfl ?_
    refine j_cS h (q := 9) mo_X2_isBelow mS_X2_isBelow mL_X2_79 (c_X2_isBelow g _ _ _) (by decide) rfl rfl (Nat.le_of_ble_eq_true rfl) dX2_save_6 rfl ?_
    rintro _ w6 ⟨x6, rfl, e⟩
    obtain ⟨e1, rfl⟩ := e
    obtain rfl : x6 = 0 := e1.trans (b2i_df (show ¬ (¬ a < 0 ∧ a < nI 2) from ha)).symm
    refine j_if_ne h (tgt := 15) (q := 12) dX2_save_9 rfl (by decide) (fun c_9 => ?_) (fun c_9 => ?_)
    · exact absurd (show (0 : Int32) = 0 from rfl) c_9
    refine j_bipush h (q := 14) (-2) dX2_save_12 rfl (by decide) ?_
    refine j_iret h rfl dX2_save_14 ?_
    refine ⟨_, rfl, by rw [hs], X, rfl, by rw [hs]; exact R⟩

set_option maxRecDepth 100000 in
set_option maxHeartbeats 4000000 in
theorem X_restore (g : jG) (w : jW) (X : Xs) (σ : Sg) (S : SI σ) (R : XR X σ) (a : Int32)  : ConI g 4 yX2_restore cX2_restore 2 (some (.int)) [.ref (gr g 0), .int a] (xw g w X) (fun x w' => x = (spRestore σ a).1 ∧ ∃ X', w' = xw g w X' ∧ XR X' (spRestore σ a).2) := by
  refine con_of (by decide +kernel) (Nat.le_of_ble_eq_true rfl) [(0, _), (1, _)] rfl (fun K h => ?_)
  by_cases ha : inn 2 a
  · obtain ⟨k, hk, rfl, hvk⟩ := inn_of (by decide) ha
    rcases R.2.2.2.1 k hk with ⟨q1, q2⟩ | ⟨γ, q1, q2, q3⟩
    · have hs : spRestore σ (nI k) = (-5, σ) := by unfold spRestore; rw [if_pos ha, hvk, q1]
      refine j_iload_n h (q := 1) 1 dX2_restore_0 rfl rfl ?_
      refine j_aload_n h (q := 2) 0 dX2_restore_1 rfl rfl ?_
      refine j_get h (q := 5) inX2 (C := RX2) (T := TX2) (N := 9) (ci := 2) rfl 4 (by decide) mF_X2_26 (by decide) (xw_0 _ _ _) rfl dX2_restore_2 rfl ?_
      refine j_alen h (q := 6) 1 (nI 2) (by decide) (xw_4 _ _ _) rfl rfl dX2_restore_5 rfl ?_
      refine j_cS h (q := 9) mo_X2_isBelow mS_X2_isBelow mL_X2_79 (c_X2_isBelow g _ _ _) (by decide) rfl rfl (Nat.le_of_ble_eq_true rfl) dX2_restore_6 rfl ?_
      rintro _ w6 ⟨x6, rfl, e⟩
      obtain ⟨e1, rfl⟩ := e
      obtain rfl : x6 = 1 := e1.trans (b2i_dt (show ¬ (nI k) < 0 ∧ (nI k) < nI 2 from ha)).symm
      refine j_if_ne h (tgt := 15) (q := 12) dX2_restore_9 rfl (by decide) (fun c_9 => ?_) (fun c_9 => ?_)
      rotate_left
      · exact absurd (show (1 : Int32) = 0 from c_9) (by decide)
      refine j_aload_n h (q := 16) 0 dX2_restore_15 rfl rfl ?_
      refine j_get h (q := 19) inX2 (C := RX2) (T := TX2) (N := 9) (ci := 2) rfl 4 (by decide) mF_X2_26 (by decide) (xw_0 _ _ _) rfl dX2_restore_16 rfl ?_
      refine j_iload_n h (q := 20) 1 dX2_restore_19 rfl rfl ?_
      refine j_zald h (q := 21) (by decide) (xw_4 _ _ _) (vp_in_nI hk (by decide)) dX2_restore_20 rfl ?_
      rw [nI_clamp (by omega)]
      rw [show Xsv X k = 0 from q2]
      refine j_if_ne h (tgt := 27) (q := 24) dX2_restore_21 rfl (by decide) (fun c_21 => ?_) (fun c_21 => ?_)
      · exact absurd (show (0 : Int32) = 0 from rfl) c_21
      refine j_bipush h (q := 26) (-5) dX2_restore_24 rfl (by decide) ?_
      refine j_iret h rfl dX2_restore_26 ?_
      refine ⟨_, rfl, by rw [hs], X, rfl, by rw [hs]; exact R⟩
    · have hs : spRestore σ (nI k) = (nI (qd γ), recG σ γ) := by unfold spRestore; rw [if_pos ha, hvk, q1]
      have Gγ := S.2.2.2.1 k hk γ q1
      refine j_iload_n h (q := 1) 1 dX2_restore_0 rfl rfl ?_
      refine j_aload_n h (q := 2) 0 dX2_restore_1 rfl rfl ?_
      refine j_get h (q := 5) inX2 (C := RX2) (T := TX2) (N := 9) (ci := 2) rfl 4 (by decide) mF_X2_26 (by decide) (xw_0 _ _ _) rfl dX2_restore_2 rfl ?_
      refine j_alen h (q := 6) 1 (nI 2) (by decide) (xw_4 _ _ _) rfl rfl dX2_restore_5 rfl ?_
      refine j_cS h (q := 9) mo_X2_isBelow mS_X2_isBelow mL_X2_79 (c_X2_isBelow g _ _ _) (by decide) rfl rfl (Nat.le_of_ble_eq_true rfl) dX2_restore_6 rfl ?_
      rintro _ w6 ⟨x6, rfl, e⟩
      obtain ⟨e1, rfl⟩ := e
      obtain rfl : x6 = 1 := e1.trans (b2i_dt (show ¬ (nI k) < 0 ∧ (nI k) < nI 2 from ha)).symm
      refine j_if_ne h (tgt := 15) (q := 12) dX2_restore_9 rfl (by decide) (fun c_9 => ?_) (fun c_9 => ?_)
      rotate_left
      · exact absurd (show (1 : Int32) = 0 from c_9) (by decide)
      refine j_aload_n h (q := 16) 0 dX2_restore_15 rfl rfl ?_
      refine j_get h (q := 19) inX2 (C := RX2) (T := TX2) (N := 9) (ci := 2) rfl 4 (by decide) mF_X2_26 (by decide) (xw_0 _ _ _) rfl dX2_restore_16 rfl ?_
      refine j_iload_n h (q := 20) 1 dX2_restore_19 rfl rfl ?_
      refine j_zald h (q := 21) (by decide) (xw_4 _ _ _) (vp_in_nI hk (by decide)) dX2_restore_20 rfl ?_
      rw [nI_clamp (by omega)]
      rw [show Xsv X k = 1 from q2]
      refine j_if_ne h (tgt := 27) (q := 24) dX2_restore_21 rfl (by decide) (fun c_21 => ?_) (fun c_21 => ?_)
      rotate_left
      · exact absurd (show (1 : Int32) = 0 from c_21) (by decide)
      refine j_aload_n h (q := 28) 0 dX2_restore_27 rfl rfl ?_
      refine j_cV h (q := 31) (C := RX2) (T := TX2) (N := 9) (ci := 2) mo_X2_remember mI_X2_remember mV_X2_remember mL_X2_52 (c_remember g _ _ σ S R) (by decide) (by decide) (xw_0 _ _ _) rfl rfl rfl (Nat.le_of_ble_eq_true rfl) dX2_restore_28 rfl ?_
      rintro _ w28 ⟨rfl, e⟩
      obtain ⟨X1, rfl, R1, h1, hsl⟩ := e
      have q4 : TR (xtab X1 (7 + 6 * (8 + k))) γ := by rw [xt_s X1 hk, show Xsl X1 = Xsl X from hsl]; exact q3
      refine j_aload_n h (q := 32) 0 dX2_restore_31 rfl rfl ?_
      refine j_get h (q := 35) inX2 (C := RX2) (T := TX2) (N := 9) (ci := 2) rfl 3 (by decide) mF_X2_23 (by decide) (xw_0 _ _ _) rfl dX2_restore_32 rfl ?_
      refine j_iload_n h (q := 36) 1 dX2_restore_35 rfl rfl ?_
      refine j_cS h (q := 39) mo_X2_tableAt mS_X2_tableAt mL_X2_190 (c_tableAt g _ (z := 3) (n := 2) (b := 55) (k := k) (by decide) (xw_3 _ _ _) hk (by decide)) (by decide) rfl rfl (Nat.le_of_ble_eq_true rfl) dX2_restore_36 rfl ?_
      rintro _ w36 ⟨x36, rfl, e⟩
      obtain ⟨rfl, rfl⟩ := e
      rw [show 55 + 6 * k = 7 + 6 * (8 + k) by omega]
      refine j_aload_n h (q := 40) 0 dX2_restore_39 rfl rfl ?_
      refine j_get h (q := 43) inX2 (C := RX2) (T := TX2) (N := 9) (ci := 2) rfl 0 (by decide) mF_X2_10 (by decide) (xw_0 _ _ _) rfl dX2_restore_40 rfl ?_
      rw [xw_2t g w X1 (i := 8 + k) (j := 0) (by omega) (by decide)]
      refine j_cS h (q := 46) mo_X2_copyTable mS_X2_copyTable mL_X2_170 (c_copyTable g _ (t := 7 + 6 * (8 + k)) (u := 7 + 6 * 0) (nw6 (by omega)) (by decide) (by omega) _ _ (R_ov q4)) (by decide) rfl rfl (Nat.le_of_ble_eq_true rfl) dX2_restore_43 rfl ?_
      rintro _ w43 ⟨rfl, e⟩
      obtain ⟨U, rfl, hcp⟩ := e
      rw [xw_2u g w X1 (i := 8 + k) (j := 0) (by omega) (by decide), rest_y X1 U hk]
      refine j_aload_n h (q := 47) 0 dX2_restore_46 rfl rfl ?_
      refine j_get h (q := 50) inX2 (C := RX2) (T := TX2) (N := 9) (ci := 2) rfl 0 (by decide) mF_X2_10 (by decide) (xw_0 _ _ _) rfl dX2_restore_47 rfl ?_
      refine j_get h (q := 53) inX1 (C := RX1) (T := TX1) (N := 9) (ci := 1) rfl 6 (by decide) mF_X2_141 (by decide) (xw_r g _ _ (i := 0) (by decide)) rfl dX2_restore_50 rfl ?_
      refine j_iret h rfl dX2_restore_53 ?_
      refine ⟨_, rfl, by rw [hs]; exact R_dr (CPY_TR hcp q4 Gγ), _, rfl, by rw [hs]; exact XR_now R1 (CPY_TR hcp q4 Gγ)⟩
  · have hs : spRestore σ a = (-2, σ) := if_neg ha
    refine j_iload_n h (q := 1) 1 dX2_restore_0 rfl rfl ?_
    refine j_aload_n h (q := 2) 0 dX2_restore_1 rfl rfl ?_
    refine j_get h (q := 5) inX2 (C := RX2) (T := TX2) (N := 9) (ci := 2) rfl 4 (by decide) mF_X2_26 (by decide) (xw_0 _ _ _) rfl dX2_restore_2 rfl ?_
    refine j_alen h (q := 6) 1 (nI 2) (by decide) (xw_4 _ _ _) rfl rfl dX2_restore_5 rfl ?_
    refine j_cS h (q := 9) mo_X2_isBelow mS_X2_isBelow mL_X2_79 (c_X2_isBelow g _ _ _) (by decide) rfl rfl (Nat.le_of_ble_eq_true rfl) dX2_restore_6 rfl ?_
    rintro _ w6 ⟨x6, rfl, e⟩
    obtain ⟨e1, rfl⟩ := e
    obtain rfl : x6 = 0 := e1.trans (b2i_df (show ¬ (¬ a < 0 ∧ a < nI 2) from ha)).symm
    refine j_if_ne h (tgt := 15) (q := 12) dX2_restore_9 rfl (by decide) (fun c_9 => ?_) (fun c_9 => ?_)
    · exact absurd (show (0 : Int32) = 0 from rfl) c_9
    refine j_bipush h (q := 14) (-2) dX2_restore_12 rfl (by decide) ?_
    refine j_iret h rfl dX2_restore_14 ?_
    refine ⟨_, rfl, by rw [hs], X, rfl, by rw [hs]; exact R⟩
