set_option maxRecDepth 100000 in
set_option maxHeartbeats 4000000 in
theorem X_deal (g : jG) (w : jW) (X : Xs) (σ : Sg) (S : SI σ) (R : XR X σ) (a : Int32)  : ConI g 5 yX2_deal cX2_deal 2 (some (.int)) [.ref (gr g 0), .int a] (xw g w X) (fun x w' => x = (spDeal σ a).1 ∧ ∃ X', w' = xw g w X' ∧ XR X' (spDeal σ a).2) := by
  refine con_of (by decide +kernel) (Nat.le_of_ble_eq_true rfl) [(0, _), (1, _)] rfl (fun K h => ?_)
  by_cases h0 : a < 0
  · have hs : spDeal σ a = (-2, σ) := if_pos h0
    refine j_iload_n h (q := 1) 1 dX2_deal_0 rfl rfl ?_
    refine j_if_ge h (tgt := 7) (q := 4) dX2_deal_1 rfl (by decide) (fun c_1 => ?_) (fun c_1 => ?_)
    · exact absurd h0 (Int32.not_lt.mpr c_1)
    refine j_bipush h (q := 6) (-2) dX2_deal_4 rfl (by decide) ?_
    refine j_iret h rfl dX2_deal_6 ?_
    refine ⟨_, rfl, by rw [hs], X, rfl, by rw [hs]; exact R⟩
  · obtain ⟨k, hk, rfl⟩ := nI_of h0
    have hs : spDeal σ (nI k) = (ov (topO (dealG k) 0), recG σ (dealG k)) := by unfold spDeal; rw [if_neg h0, show vv (nI k) = k from nI_clamp hk]
    refine j_iload_n h (q := 1) 1 dX2_deal_0 rfl rfl ?_
    refine j_if_ge h (tgt := 7) (q := 4) dX2_deal_1 rfl (by decide) (fun c_1 => ?_) (fun c_1 => ?_)
    rotate_left
    · exact absurd (nI_pos' hk) c_1
    refine j_aload_n h (q := 8) 0 dX2_deal_7 rfl rfl ?_
    refine j_cV h (q := 11) (C := RX2) (T := TX2) (N := 9) (ci := 2) mo_X2_remember mI_X2_remember mV_X2_remember mL_X2_52 (c_remember g _ _ σ S R) (by decide) (by decide) (xw_0 _ _ _) rfl rfl rfl (Nat.le_of_ble_eq_true rfl) dX2_deal_8 rfl ?_
    rintro _ w8 ⟨rfl, e⟩
    obtain ⟨X1, rfl, R1, h1, hsl⟩ := e
    have R0 : TR (Xnow X1) (zg σ) := by rw [show Xnow X1 = Xnow X from h1]; exact R.1
    refine j_aload_n h (q := 12) 0 dX2_deal_11 rfl rfl ?_
    refine j_get h (q := 15) inX2 (C := RX2) (T := TX2) (N := 9) (ci := 2) rfl 0 (by decide) mF_X2_10 (by decide) (xw_0 _ _ _) rfl dX2_deal_12 rfl ?_
    refine j_iload_n h (q := 16) 1 dX2_deal_15 rfl rfl ?_
    refine j_cV h (q := 19) (C := RX1) (T := TX1) (N := 9) (ci := 1) mo_X1_dealBy mI_X1_dealBy mV_X1_dealBy mL_X2_48 (xw_con (i := 0) (by decide) (c_dealBy g _ _ (by decide) (xtab X1 (7 + 6 * 0)) rfl (by omega))) (by decide) (by decide) (xw_r g _ _ (i := 0) (by decide)) rfl rfl rfl (Nat.le_of_ble_eq_true rfl) dX2_deal_16 rfl ?_
    rintro _ w16 ⟨rfl, e⟩
    obtain ⟨T2, rfl, R2⟩ := e
    rw [xw_ut g w _ (show 0 < 10 by decide)]
    refine j_aload_n h (q := 20) 0 dX2_deal_19 rfl rfl ?_
    refine j_get h (q := 23) inX2 (C := RX2) (T := TX2) (N := 9) (ci := 2) rfl 0 (by decide) mF_X2_10 (by decide) (xw_0 _ _ _) rfl dX2_deal_20 rfl ?_
    refine j_iconst h (q := 24) (0) dX2_deal_23 rfl (by decide) ?_
    refine j_cV h (q := 27) (C := RX1) (T := TX1) (N := 9) (ci := 1) mo_X1_topOf mI_X1_topOf mV_X1_topOf mL_X2_55 (xw_con (i := 0) (by decide) (c_top g _ _ (by decide) (xtab (yTab X1 0 T2) (7 + 6 * 0)) (dealG k) R2 (GI_deal k) (p := 0) rfl (by decide))) (by decide) (by decide) (xw_r g _ _ (i := 0) (by decide)) rfl rfl rfl (Nat.le_of_ble_eq_true rfl) dX2_deal_24 rfl ?_
    rintro _ w24 ⟨x24, rfl, e⟩
    obtain ⟨rfl, rfl⟩ := e
    rw [xw_tab g w _ (show 0 < 10 by decide)]
    refine j_iret h rfl dX2_deal_27 ?_
    refine ⟨_, rfl, by rw [hs], _, rfl, by rw [hs]; exact XR_now R1 R2⟩

set_option maxRecDepth 100000 in
set_option maxHeartbeats 4000000 in
theorem X_move (g : jG) (w : jW) (X : Xs) (σ : Sg) (S : SI σ) (R : XR X σ) (a b : Int32)  : ConI g 4 yX2_move cX2_move 3 (some (.int)) [.ref (gr g 0), .int a, .int b] (xw g w X) (fun x w' => x = (spMove σ a b).1 ∧ ∃ X', w' = xw g w X' ∧ XR X' (spMove σ a b).2) := by
  refine con_of (by decide +kernel) (Nat.le_of_ble_eq_true rfl) [(0, _), (1, _), (2, _)] rfl (fun K h => ?_)
  by_cases ha : inn 22 a
  · by_cases hb : inn 22 b
    · obtain ⟨f, hf, rfl, hvf⟩ := inn_of (by decide) ha
      obtain ⟨u, hu, rfl, hvu⟩ := inn_of (by decide) hb
      cases hk : okG (zg σ) f u
      · have hs : spMove σ (nI f) (nI u) = (-5, σ) := by unfold spMove; rw [if_pos ⟨ha, hb⟩, hvf, hvu, hk]; rfl
        refine j_iload_n h (q := 1) 1 dX2_move_0 rfl rfl ?_
        refine j_cS h (q := 4) mo_X2_isPile mS_X2_isPile mL_X2_59 (c_X2_isPile g _ _) (by decide) rfl rfl (Nat.le_of_ble_eq_true rfl) dX2_move_1 rfl ?_
        rintro _ w1 ⟨x1, rfl, e⟩
        obtain ⟨e1, rfl⟩ := e
        obtain rfl : x1 = 1 := e1.trans (b2i_dt (show ¬ (nI f) < 0 ∧ (nI f) < 22 from ha)).symm
        refine j_if_eq h (tgt := 14) (q := 7) dX2_move_4 rfl (by decide) (fun c_4 => ?_) (fun c_4 => ?_)
        · exact absurd (show (1 : Int32) = 0 from c_4) (by decide)
        refine j_iload_n h (q := 8) 2 dX2_move_7 rfl rfl ?_
        refine j_cS h (q := 11) mo_X2_isPile mS_X2_isPile mL_X2_59 (c_X2_isPile g _ _) (by decide) rfl rfl (Nat.le_of_ble_eq_true rfl) dX2_move_8 rfl ?_
        rintro _ w8 ⟨x8, rfl, e⟩
        obtain ⟨e1, rfl⟩ := e
        obtain rfl : x8 = 1 := e1.trans (b2i_dt (show ¬ (nI u) < 0 ∧ (nI u) < 22 from hb)).symm
        refine j_if_ne h (tgt := 16) (q := 14) dX2_move_11 rfl (by decide) (fun c_11 => ?_) (fun c_11 => ?_)
        rotate_left
        · exact absurd (show (1 : Int32) = 0 from c_11) (by decide)
        refine j_aload_n h (q := 17) 0 dX2_move_16 rfl rfl ?_
        refine j_get h (q := 20) inX2 (C := RX2) (T := TX2) (N := 9) (ci := 2) rfl 0 (by decide) mF_X2_10 (by decide) (xw_0 _ _ _) rfl dX2_move_17 rfl ?_
        refine j_iload_n h (q := 21) 1 dX2_move_20 rfl rfl ?_
        refine j_iload_n h (q := 22) 2 dX2_move_21 rfl rfl ?_
        refine j_cV h (q := 25) (C := RX1) (T := TX1) (N := 9) (ci := 1) mo_X1_allowsMove mI_X1_allowsMove mV_X1_allowsMove mL_X2_63 (xw_con (i := 0) (by decide) (c_allowsMove g _ _ (by decide) (xtab X (7 + 6 * 0)) (zg σ) R.1 S.1 rfl rfl hf hu)) (by decide) (by decide) (xw_r g _ _ (i := 0) (by decide)) rfl rfl rfl (Nat.le_of_ble_eq_true rfl) dX2_move_22 rfl ?_
        rintro _ w22 ⟨x22, rfl, e⟩
        obtain ⟨rfl, rfl⟩ := e
        rw [xw_tab g w _ (show 0 < 10 by decide)]
        rw [hk]
        refine j_if_ne h (tgt := 31) (q := 28) dX2_move_25 rfl (by decide) (fun c_25 => ?_) (fun c_25 => ?_)
        · exact absurd (show (0 : Int32) = 0 from rfl) c_25
        refine j_bipush h (q := 30) (-5) dX2_move_28 rfl (by decide) ?_
        refine j_iret h rfl dX2_move_30 ?_
        refine ⟨_, rfl, by rw [hs], X, rfl, by rw [hs]; exact R⟩
      · have hs : spMove σ (nI f) (nI u) = (gainG (zg σ) f u, recG σ (moveG (zg σ) f u)) := by unfold spMove; rw [if_pos ⟨ha, hb⟩, hvf, hvu, hk]; rfl
        refine j_iload_n h (q := 1) 1 dX2_move_0 rfl rfl ?_
        refine j_cS h (q := 4) mo_X2_isPile mS_X2_isPile mL_X2_59 (c_X2_isPile g _ _) (by decide) rfl rfl (Nat.le_of_ble_eq_true rfl) dX2_move_1 rfl ?_
        rintro _ w1 ⟨x1, rfl, e⟩
        obtain ⟨e1, rfl⟩ := e
        obtain rfl : x1 = 1 := e1.trans (b2i_dt (show ¬ (nI f) < 0 ∧ (nI f) < 22 from ha)).symm
        refine j_if_eq h (tgt := 14) (q := 7) dX2_move_4 rfl (by decide) (fun c_4 => ?_) (fun c_4 => ?_)
        · exact absurd (show (1 : Int32) = 0 from c_4) (by decide)
        refine j_iload_n h (q := 8) 2 dX2_move_7 rfl rfl ?_
        refine j_cS h (q := 11) mo_X2_isPile mS_X2_isPile mL_X2_59 (c_X2_isPile g _ _) (by decide) rfl rfl (Nat.le_of_ble_eq_true rfl) dX2_move_8 rfl ?_
        rintro _ w8 ⟨x8, rfl, e⟩
        obtain ⟨e1, rfl⟩ := e
        obtain rfl : x8 = 1 := e1.trans (b2i_dt (show ¬ (nI u) < 0 ∧ (nI u) < 22 from hb)).symm
        refine j_if_ne h (tgt := 16) (q := 14) dX2_move_11 rfl (by decide) (fun c_11 => ?_) (fun c_11 => ?_)
        rotate_left
        · exact absurd (show (1 : Int32) = 0 from c_11) (by decide)
        refine j_aload_n h (q := 17) 0 dX2_move_16 rfl rfl ?_
        refine j_get h (q := 20) inX2 (C := RX2) (T := TX2) (N := 9) (ci := 2) rfl 0 (by decide) mF_X2_10 (by decide) (xw_0 _ _ _) rfl dX2_move_17 rfl ?_
        refine j_iload_n h (q := 21) 1 dX2_move_20 rfl rfl ?_
        refine j_iload_n h (q := 22) 2 dX2_move_21 rfl rfl ?_
        refine j_cV h (q := 25) (C := RX1) (T := TX1) (N := 9) (ci := 1) mo_X1_allowsMove mI_X1_allowsMove mV_X1_allowsMove mL_X2_63 (xw_con (i := 0) (by decide) (c_allowsMove g _ _ (by decide) (xtab X (7 + 6 * 0)) (zg σ) R.1 S.1 rfl rfl hf hu)) (by decide) (by decide) (xw_r g _ _ (i := 0) (by decide)) rfl rfl rfl (Nat.le_of_ble_eq_true rfl) dX2_move_22 rfl ?_
        rintro _ w22 ⟨x22, rfl, e⟩
        obtain ⟨rfl, rfl⟩ := e
        rw [xw_tab g w _ (show 0 < 10 by decide)]
        rw [hk]
        refine j_if_ne h (tgt := 31) (q := 28) dX2_move_25 rfl (by decide) (fun c_25 => ?_) (fun c_25 => ?_)
        rotate_left
        · exact absurd (show (1 : Int32) = 0 from c_25) (by decide)
        refine j_aload_n h (q := 32) 0 dX2_move_31 rfl rfl ?_
        refine j_cV h (q := 35) (C := RX2) (T := TX2) (N := 9) (ci := 2) mo_X2_remember mI_X2_remember mV_X2_remember mL_X2_52 (c_remember g _ _ σ S R) (by decide) (by decide) (xw_0 _ _ _) rfl rfl rfl (Nat.le_of_ble_eq_true rfl) dX2_move_32 rfl ?_
        rintro _ w32 ⟨rfl, e⟩
        obtain ⟨X1, rfl, R1, h1, hsl⟩ := e
        have R0 : TR (Xnow X1) (zg σ) := by rw [show Xnow X1 = Xnow X from h1]; exact R.1
        refine j_aload_n h (q := 36) 0 dX2_move_35 rfl rfl ?_
        refine j_get h (q := 39) inX2 (C := RX2) (T := TX2) (N := 9) (ci := 2) rfl 0 (by decide) mF_X2_10 (by decide) (xw_0 _ _ _) rfl dX2_move_36 rfl ?_
        refine j_iload_n h (q := 40) 1 dX2_move_39 rfl rfl ?_
        refine j_iload_n h (q := 41) 2 dX2_move_40 rfl rfl ?_
        refine j_cV h (q := 44) (C := RX1) (T := TX1) (N := 9) (ci := 1) mo_X1_moveCard mI_X1_moveCard mV_X1_moveCard mL_X2_67 (xw_con (i := 0) (by decide) (c_moveCard g _ _ (by decide) (xtab X1 (7 + 6 * 0)) (zg σ) R0 S.1 rfl rfl hf hu hk)) (by decide) (by decide) (xw_r g _ _ (i := 0) (by decide)) rfl rfl rfl (Nat.le_of_ble_eq_true rfl) dX2_move_41 rfl ?_
        rintro _ w41 ⟨x41, rfl, e⟩
        obtain ⟨rfl, T2, rfl, R2⟩ := e
        rw [xw_ut g w _ (show 0 < 10 by decide)]
        refine j_iret h rfl dX2_move_44 ?_
        refine ⟨_, rfl, by rw [hs], _, rfl, by rw [hs]; exact XR_now R1 R2⟩
    · have hs : spMove σ a b = (-1, σ) := if_neg (fun z => hb z.2)
      refine j_iload_n h (q := 1) 1 dX2_move_0 rfl rfl ?_
      refine j_cS h (q := 4) mo_X2_isPile mS_X2_isPile mL_X2_59 (c_X2_isPile g _ _) (by decide) rfl rfl (Nat.le_of_ble_eq_true rfl) dX2_move_1 rfl ?_
      rintro _ w1 ⟨x1, rfl, e⟩
      obtain ⟨e1, rfl⟩ := e
      obtain rfl : x1 = 1 := e1.trans (b2i_dt (show ¬ a < 0 ∧ a < 22 from ha)).symm
      refine j_if_eq h (tgt := 14) (q := 7) dX2_move_4 rfl (by decide) (fun c_4 => ?_) (fun c_4 => ?_)
      · exact absurd (show (1 : Int32) = 0 from c_4) (by decide)
      refine j_iload_n h (q := 8) 2 dX2_move_7 rfl rfl ?_
      refine j_cS h (q := 11) mo_X2_isPile mS_X2_isPile mL_X2_59 (c_X2_isPile g _ _) (by decide) rfl rfl (Nat.le_of_ble_eq_true rfl) dX2_move_8 rfl ?_
      rintro _ w8 ⟨x8, rfl, e⟩
      obtain ⟨e1, rfl⟩ := e
      obtain rfl : x8 = 0 := e1.trans (b2i_df (show ¬ (¬ b < 0 ∧ b < 22) from hb)).symm
      refine j_if_ne h (tgt := 16) (q := 14) dX2_move_11 rfl (by decide) (fun c_11 => ?_) (fun c_11 => ?_)
      · exact absurd (show (0 : Int32) = 0 from rfl) c_11
      refine j_iconst h (q := 15) (-1) dX2_move_14 rfl (by decide) ?_
      refine j_iret h rfl dX2_move_15 ?_
      refine ⟨_, rfl, by rw [hs], X, rfl, by rw [hs]; exact R⟩
  · have hs : spMove σ a b = (-1, σ) := if_neg (fun z => ha z.1)
    refine j_iload_n h (q := 1) 1 dX2_move_0 rfl rfl ?_
    refine j_cS h (q := 4) mo_X2_isPile mS_X2_isPile mL_X2_59 (c_X2_isPile g _ _) (by decide) rfl rfl (Nat.le_of_ble_eq_true rfl) dX2_move_1 rfl ?_
    rintro _ w1 ⟨x1, rfl, e⟩
    obtain ⟨e1, rfl⟩ := e
    obtain rfl : x1 = 0 := e1.trans (b2i_df (show ¬ (¬ a < 0 ∧ a < 22) from ha)).symm
    refine j_if_eq h (tgt := 14) (q := 7) dX2_move_4 rfl (by decide) (fun c_4 => ?_) (fun c_4 => ?_)
    rotate_left
    · exact absurd (show (0 : Int32) = 0 from rfl) c_4
    refine j_iconst h (q := 15) (-1) dX2_move_14 rfl (by decide) ?_
    refine j_iret h rfl dX2_move_15 ?_
    refine ⟨_, rfl, by rw [hs], X, rfl, by rw [hs]; exact R⟩

set_option maxRecDepth 100000 in
set_option maxHeartbeats 4000000 in
theorem X_draw (g : jG) (w : jW) (X : Xs) (σ : Sg) (S : SI σ) (R : XR X σ)  : ConI g 5 yX2_draw cX2_draw 1 (some (.int)) [.ref (gr g 0)] (xw g w X) (fun x w' => x = (spDraw σ).1 ∧ ∃ X', w' = xw g w X' ∧ XR X' (spDraw σ).2) := by
  refine con_of (by decide +kernel) (Nat.le_of_ble_eq_true rfl) [(0, _)] rfl (fun K h => ?_)
  cases ho : qo (zg σ)
  · have hs : spDraw σ = (ov (drawO (zg σ)), recG σ (drawG (zg σ))) := by unfold spDraw; rw [ho]; rfl
    refine j_aload_n h (q := 1) 0 dX2_draw_0 rfl rfl ?_
    refine j_get h (q := 4) inX2 (C := RX2) (T := TX2) (N := 9) (ci := 2) rfl 0 (by decide) mF_X2_10 (by decide) (xw_0 _ _ _) rfl dX2_draw_1 rfl ?_
    refine j_get h (q := 7) inX1 (C := RX1) (T := TX1) (N := 9) (ci := 1) rfl 8 (by decide) mF_X2_71 (by decide) (xw_r g _ _ (i := 0) (by decide)) rfl dX2_draw_4 rfl ?_
    rw [show Tov (xtab X (7 + 6 * 0)) = b2i (qo (zg σ)) from R_ov R.1, ho]
    refine j_if_eq h (tgt := 13) (q := 10) dX2_draw_7 rfl (by decide) (fun c_7 => ?_) (fun c_7 => ?_)
    rotate_left
    · exact absurd (show (0 : Int32) = 0 from rfl) c_7
    refine j_aload_n h (q := 14) 0 dX2_draw_13 rfl rfl ?_
    refine j_cV h (q := 17) (C := RX2) (T := TX2) (N := 9) (ci := 2) mo_X2_remember mI_X2_remember mV_X2_remember mL_X2_52 (c_remember g _ _ σ S R) (by decide) (by decide) (xw_0 _ _ _) rfl rfl rfl (Nat.le_of_ble_eq_true rfl) dX2_draw_14 rfl ?_
    rintro _ w14 ⟨rfl, e⟩
    obtain ⟨X1, rfl, R1, h1, hsl⟩ := e
    have R0 : TR (Xnow X1) (zg σ) := by rw [show Xnow X1 = Xnow X from h1]; exact R.1
    refine j_aload_n h (q := 18) 0 dX2_draw_17 rfl rfl ?_
    refine j_get h (q := 21) inX2 (C := RX2) (T := TX2) (N := 9) (ci := 2) rfl 0 (by decide) mF_X2_10 (by decide) (xw_0 _ _ _) rfl dX2_draw_18 rfl ?_
    refine j_cV h (q := 24) (C := RX1) (T := TX1) (N := 9) (ci := 1) mo_X1_drawCard mI_X1_drawCard mV_X1_drawCard mL_X2_75 (xw_con (i := 0) (by decide) (c_drawCard g _ _ (by decide) (xtab X1 (7 + 6 * 0)) (zg σ) R0 S.1 ho)) (by decide) (by decide) (xw_r g _ _ (i := 0) (by decide)) rfl rfl rfl (Nat.le_of_ble_eq_true rfl) dX2_draw_21 rfl ?_
    rintro _ w21 ⟨x21, rfl, e⟩
    obtain ⟨rfl, T2, rfl, R2⟩ := e
    rw [xw_ut g w _ (show 0 < 10 by decide)]
    refine j_iret h rfl dX2_draw_24 ?_
    refine ⟨_, rfl, by rw [hs], _, rfl, by rw [hs]; exact XR_now R1 R2⟩
  · have hs : spDraw σ = (-5, σ) := by unfold spDraw; rw [ho]; rfl
    refine j_aload_n h (q := 1) 0 dX2_draw_0 rfl rfl ?_
    refine j_get h (q := 4) inX2 (C := RX2) (T := TX2) (N := 9) (ci := 2) rfl 0 (by decide) mF_X2_10 (by decide) (xw_0 _ _ _) rfl dX2_draw_1 rfl ?_
    refine j_get h (q := 7) inX1 (C := RX1) (T := TX1) (N := 9) (ci := 1) rfl 8 (by decide) mF_X2_71 (by decide) (xw_r g _ _ (i := 0) (by decide)) rfl dX2_draw_4 rfl ?_
    rw [show Tov (xtab X (7 + 6 * 0)) = b2i (qo (zg σ)) from R_ov R.1, ho]
    refine j_if_eq h (tgt := 13) (q := 10) dX2_draw_7 rfl (by decide) (fun c_7 => ?_) (fun c_7 => ?_)
    · exact absurd (show (1 : Int32) = 0 from c_7) (by decide)
    refine j_bipush h (q := 12) (-5) dX2_draw_10 rfl (by decide) ?_
    refine j_iret h rfl dX2_draw_12 ?_
    refine ⟨_, rfl, by rw [hs], X, rfl, by rw [hs]; exact R⟩

set_option maxRecDepth 100000 in
set_option maxHeartbeats 4000000 in
theorem X_freeze (g : jG) (w : jW) (X : Xs) (σ : Sg) (S : SI σ) (R : XR X σ) (a : Int32)  : ConI g 4 yX2_freeze cX2_freeze 2 (some (.int)) [.ref (gr g 0), .int a] (xw g w X) (fun x w' => x = (spFreeze σ a).1 ∧ ∃ X', w' = xw g w X' ∧ XR X' (spFreeze σ a).2) := by
  refine con_of (by decide +kernel) (Nat.le_of_ble_eq_true rfl) [(0, _), (1, _)] rfl (fun K h => ?_)
  by_cases ha : inn 8 a
  · obtain ⟨k, hk8, rfl, hvk⟩ := inn_of (by decide) ha
    cases hk : okF (zg σ) k
    · have hs : spFreeze σ (nI k) = (-5, σ) := by unfold spFreeze; rw [if_pos ha, hvk, hk]; rfl
      refine j_iload_n h (q := 1) 1 dX2_freeze_0 rfl rfl ?_
      refine j_bipush h (q := 3) (8) dX2_freeze_1 rfl (by decide) ?_
      refine j_cS h (q := 6) mo_X2_isBelow mS_X2_isBelow mL_X2_79 (c_X2_isBelow g _ _ _) (by decide) rfl rfl (Nat.le_of_ble_eq_true rfl) dX2_freeze_3 rfl ?_
      rintro _ w3 ⟨x3, rfl, e⟩
      obtain ⟨e1, rfl⟩ := e
      obtain rfl : x3 = 1 := e1.trans (b2i_dt (show ¬ (nI k) < 0 ∧ (nI k) < 8 from ha)).symm
      refine j_if_ne h (tgt := 11) (q := 9) dX2_freeze_6 rfl (by decide) (fun c_6 => ?_) (fun c_6 => ?_)
      rotate_left
      · exact absurd (show (1 : Int32) = 0 from c_6) (by decide)
      refine j_aload_n h (q := 12) 0 dX2_freeze_11 rfl rfl ?_
      refine j_get h (q := 15) inX2 (C := RX2) (T := TX2) (N := 9) (ci := 2) rfl 0 (by decide) mF_X2_10 (by decide) (xw_0 _ _ _) rfl dX2_freeze_12 rfl ?_
      refine j_iload_n h (q := 16) 1 dX2_freeze_15 rfl rfl ?_
      refine j_cV h (q := 19) (C := RX1) (T := TX1) (N := 9) (ci := 1) mo_X1_allowsFreeze mI_X1_allowsFreeze mV_X1_allowsFreeze mL_X2_82 (xw_con (i := 0) (by decide) (c_allowsFreeze g _ _ (by decide) (xtab X (7 + 6 * 0)) (zg σ) R.1 S.1 rfl hk8)) (by decide) (by decide) (xw_r g _ _ (i := 0) (by decide)) rfl rfl rfl (Nat.le_of_ble_eq_true rfl) dX2_freeze_16 rfl ?_
      rintro _ w16 ⟨x16, rfl, e⟩
      obtain ⟨rfl, rfl⟩ := e
      rw [xw_tab g w _ (show 0 < 10 by decide)]
      rw [hk]
      refine j_if_ne h (tgt := 25) (q := 22) dX2_freeze_19 rfl (by decide) (fun c_19 => ?_) (fun c_19 => ?_)
      · exact absurd (show (0 : Int32) = 0 from rfl) c_19
      refine j_bipush h (q := 24) (-5) dX2_freeze_22 rfl (by decide) ?_
      refine j_iret h rfl dX2_freeze_24 ?_
      refine ⟨_, rfl, by rw [hs], X, rfl, by rw [hs]; exact R⟩
    · have hs : spFreeze σ (nI k) = (nI (qf (zg σ) (qt (zg σ)) - 1), recG σ (freezeG (zg σ) k)) := by unfold spFreeze; rw [if_pos ha, hvk, hk]; rfl
      refine j_iload_n h (q := 1) 1 dX2_freeze_0 rfl rfl ?_
      refine j_bipush h (q := 3) (8) dX2_freeze_1 rfl (by decide) ?_
      refine j_cS h (q := 6) mo_X2_isBelow mS_X2_isBelow mL_X2_79 (c_X2_isBelow g _ _ _) (by decide) rfl rfl (Nat.le_of_ble_eq_true rfl) dX2_freeze_3 rfl ?_
      rintro _ w3 ⟨x3, rfl, e⟩
      obtain ⟨e1, rfl⟩ := e
      obtain rfl : x3 = 1 := e1.trans (b2i_dt (show ¬ (nI k) < 0 ∧ (nI k) < 8 from ha)).symm
      refine j_if_ne h (tgt := 11) (q := 9) dX2_freeze_6 rfl (by decide) (fun c_6 => ?_) (fun c_6 => ?_)
      rotate_left
      · exact absurd (show (1 : Int32) = 0 from c_6) (by decide)
      refine j_aload_n h (q := 12) 0 dX2_freeze_11 rfl rfl ?_
      refine j_get h (q := 15) inX2 (C := RX2) (T := TX2) (N := 9) (ci := 2) rfl 0 (by decide) mF_X2_10 (by decide) (xw_0 _ _ _) rfl dX2_freeze_12 rfl ?_
      refine j_iload_n h (q := 16) 1 dX2_freeze_15 rfl rfl ?_
      refine j_cV h (q := 19) (C := RX1) (T := TX1) (N := 9) (ci := 1) mo_X1_allowsFreeze mI_X1_allowsFreeze mV_X1_allowsFreeze mL_X2_82 (xw_con (i := 0) (by decide) (c_allowsFreeze g _ _ (by decide) (xtab X (7 + 6 * 0)) (zg σ) R.1 S.1 rfl hk8)) (by decide) (by decide) (xw_r g _ _ (i := 0) (by decide)) rfl rfl rfl (Nat.le_of_ble_eq_true rfl) dX2_freeze_16 rfl ?_
      rintro _ w16 ⟨x16, rfl, e⟩
      obtain ⟨rfl, rfl⟩ := e
      rw [xw_tab g w _ (show 0 < 10 by decide)]
      rw [hk]
      refine j_if_ne h (tgt := 25) (q := 22) dX2_freeze_19 rfl (by decide) (fun c_19 => ?_) (fun c_19 => ?_)
      rotate_left
      · exact absurd (show (1 : Int32) = 0 from c_19) (by decide)
      refine j_aload_n h (q := 26) 0 dX2_freeze_25 rfl rfl ?_
      refine j_cV h (q := 29) (C := RX2) (T := TX2) (N := 9) (ci := 2) mo_X2_remember mI_X2_remember mV_X2_remember mL_X2_52 (c_remember g _ _ σ S R) (by decide) (by decide) (xw_0 _ _ _) rfl rfl rfl (Nat.le_of_ble_eq_true rfl) dX2_freeze_26 rfl ?_
      rintro _ w26 ⟨rfl, e⟩
      obtain ⟨X1, rfl, R1, h1, hsl⟩ := e
      have R0 : TR (Xnow X1) (zg σ) := by rw [show Xnow X1 = Xnow X from h1]; exact R.1
      refine j_aload_n h (q := 30) 0 dX2_freeze_29 rfl rfl ?_
      refine j_get h (q := 33) inX2 (C := RX2) (T := TX2) (N := 9) (ci := 2) rfl 0 (by decide) mF_X2_10 (by decide) (xw_0 _ _ _) rfl dX2_freeze_30 rfl ?_
      refine j_iload_n h (q := 34) 1 dX2_freeze_33 rfl rfl ?_
      refine j_cV h (q := 37) (C := RX1) (T := TX1) (N := 9) (ci := 1) mo_X1_freezeHouse mI_X1_freezeHouse mV_X1_freezeHouse mL_X2_85 (xw_con (i := 0) (by decide) (c_freezeHouse g _ _ (by decide) (xtab X1 (7 + 6 * 0)) (zg σ) R0 S.1 rfl hk8 hk)) (by decide) (by decide) (xw_r g _ _ (i := 0) (by decide)) rfl rfl rfl (Nat.le_of_ble_eq_true rfl) dX2_freeze_34 rfl ?_
      rintro _ w34 ⟨x34, rfl, e⟩
      obtain ⟨rfl, T2, rfl, R2⟩ := e
      rw [xw_ut g w _ (show 0 < 10 by decide)]
      refine j_iret h rfl dX2_freeze_37 ?_
      refine ⟨_, rfl, by rw [hs], _, rfl, by rw [hs]; exact XR_now R1 R2⟩
  · have hs : spFreeze σ a = (-1, σ) := if_neg ha
    refine j_iload_n h (q := 1) 1 dX2_freeze_0 rfl rfl ?_
    refine j_bipush h (q := 3) (8) dX2_freeze_1 rfl (by decide) ?_
    refine j_cS h (q := 6) mo_X2_isBelow mS_X2_isBelow mL_X2_79 (c_X2_isBelow g _ _ _) (by decide) rfl rfl (Nat.le_of_ble_eq_true rfl) dX2_freeze_3 rfl ?_
    rintro _ w3 ⟨x3, rfl, e⟩
    obtain ⟨e1, rfl⟩ := e
    obtain rfl : x3 = 0 := e1.trans (b2i_df (show ¬ (¬ a < 0 ∧ a < 8) from ha)).symm
    refine j_if_ne h (tgt := 11) (q := 9) dX2_freeze_6 rfl (by decide) (fun c_6 => ?_) (fun c_6 => ?_)
    · exact absurd (show (0 : Int32) = 0 from rfl) c_6
    refine j_iconst h (q := 10) (-1) dX2_freeze_9 rfl (by decide) ?_
    refine j_iret h rfl dX2_freeze_10 ?_
    refine ⟨_, rfl, by rw [hs], X, rfl, by rw [hs]; exact R⟩

theorem inn_1 {a : Int32} {n : Nat} (h1 : ¬ a < 1) (h2 : ¬ nI n < a) (hn : n < 1000) : inn (n + 1) a := by
  have e1 : (1 : Int32).toInt = 1 := by decide
  have e0 : (0 : Int32).toInt = 0 := rfl
  rw [i32_lt, e1] at h1
  rw [i32_lt, nI_toInt (by omega)] at h2
  refine ⟨?_, ?_⟩
  · rw [i32_lt, e0]; omega
  · rw [i32_lt, nI_toInt (by omega)]; omega
theorem XR_mv {X : Xs} {f : Nat → Int32} {T : Ts} {σ : Sg} (R : XR (yNow X T) σ) : XR (yTab (yMv X f) 0 T) σ := R

set_option maxRecDepth 100000 in
set_option maxHeartbeats 4000000 in
theorem X_play (g : jG) (w : jW) (X : Xs) (σ : Sg) (S : SI σ) (R : XR X σ) (a : Int32)  : ConI g 6 yX2_play cX2_play 2 (some (.int)) [.ref (gr g 0), .int a] (xw g w X) (fun x w' => x = (spPlay σ a).1 ∧ ∃ X', w' = xw g w X' ∧ XR X' (spPlay σ a).2) := by
  refine con_of (by decide +kernel) (Nat.le_of_ble_eq_true rfl) [(0, _), (1, _)] rfl (fun K h => ?_)
  by_cases ha : ¬ a < 1 ∧ ¬ 60 < a
  · obtain ⟨k, hk, rfl, hvk⟩ := inn_of (n := 61) (by decide) (inn_1 ha.1 ha.2 (by decide))
    have hs : spPlay σ (nI k) = (nI (playN k (zg σ)), recG σ (playG k (zg σ))) := by unfold spPlay; rw [if_pos ha, hvk]
    refine j_iload_n h (q := 1) 1 dX2_play_0 rfl rfl ?_
    refine j_iconst h (q := 2) (1) dX2_play_1 rfl (by decide) ?_
    refine j_icmp_lt h (tgt := 11) (q := 5) dX2_play_2 rfl (by decide) (fun c_2 => ?_) (fun c_2 => ?_)
    · exact absurd c_2 ha.1
    refine j_iload_n h (q := 6) 1 dX2_play_5 rfl rfl ?_
    refine j_bipush h (q := 8) (60) dX2_play_6 rfl (by decide) ?_
    refine j_icmp_le h (tgt := 14) (q := 11) dX2_play_8 rfl (by decide) (fun c_8 => ?_) (fun c_8 => ?_)
    rotate_left
    · exact absurd (Int32.not_le.mp c_8) ha.2
    refine j_aload_n h (q := 15) 0 dX2_play_14 rfl rfl ?_
    refine j_cV h (q := 18) (C := RX2) (T := TX2) (N := 9) (ci := 2) mo_X2_remember mI_X2_remember mV_X2_remember mL_X2_52 (c_remember g _ _ σ S R) (by decide) (by decide) (xw_0 _ _ _) rfl rfl rfl (Nat.le_of_ble_eq_true rfl) dX2_play_15 rfl ?_
    rintro _ w15 ⟨rfl, e⟩
    obtain ⟨X1, rfl, R1, h1, hsl⟩ := e
    have R0 : TR (Xnow X1) (zg σ) := by rw [show Xnow X1 = Xnow X from h1]; exact R.1
    refine j_aload_n h (q := 19) 0 dX2_play_18 rfl rfl ?_
    refine j_aload_n h (q := 20) 0 dX2_play_19 rfl rfl ?_
    refine j_get h (q := 23) inX2 (C := RX2) (T := TX2) (N := 9) (ci := 2) rfl 0 (by decide) mF_X2_10 (by decide) (xw_0 _ _ _) rfl dX2_play_20 rfl ?_
    refine j_iload_n h (q := 24) 1 dX2_play_23 rfl rfl ?_
    refine j_cV h (q := 27) (C := RX2) (T := TX2) (N := 9) (ci := 2) mo_X2_playByRule mI_X2_playByRule mV_X2_playByRule mL_X2_88 (c_playByRule g _ _ (i := 0) (by decide) (steps := k) (by omega) (zg σ) R0 S.1) (by decide) (by decide) (xw_0 _ _ _) rfl rfl rfl (Nat.le_of_ble_eq_true rfl) dX2_play_24 rfl ?_
    rintro _ w24 ⟨x24, rfl, e⟩
    obtain ⟨rfl, f, T2, rfl, R2⟩ := e
    refine j_iret h rfl dX2_play_27 ?_
    refine ⟨_, rfl, by rw [hs], _, rfl, by rw [hs]; exact XR_mv (XR_now R1 R2)⟩
  · have hs : spPlay σ a = (-2, σ) := if_neg ha
    refine j_iload_n h (q := 1) 1 dX2_play_0 rfl rfl ?_
    refine j_iconst h (q := 2) (1) dX2_play_1 rfl (by decide) ?_
    refine j_icmp_lt h (tgt := 11) (q := 5) dX2_play_2 rfl (by decide) (fun c_2 => ?_) (fun c_2 => ?_)
    · refine j_bipush h (q := 13) (-2) dX2_play_11 rfl (by decide) ?_
      refine j_iret h rfl dX2_play_13 ?_
      refine ⟨_, rfl, by rw [hs], X, rfl, by rw [hs]; exact R⟩
    · refine j_iload_n h (q := 6) 1 dX2_play_5 rfl rfl ?_
      refine j_bipush h (q := 8) (60) dX2_play_6 rfl (by decide) ?_
      refine j_icmp_le h (tgt := 14) (q := 11) dX2_play_8 rfl (by decide) (fun c_8 => ?_) (fun c_8 => ?_)
      · exact absurd ⟨c_2, Int32.not_lt.mpr c_8⟩ ha
      refine j_bipush h (q := 13) (-2) dX2_play_11 rfl (by decide) ?_
      refine j_iret h rfl dX2_play_13 ?_
      refine ⟨_, rfl, by rw [hs], X, rfl, by rw [hs]; exact R⟩

theorem ff_b {L : Nat} {ch : Nat → Nat} (hL : L ≤ 60) : ∀ {k i r : Nat}, i ≤ L + 1 → ffG L ch k i = some r → r < 1000000
  | 0, i, r, hi, h => by cases h; omega
  | k + 1, i, r, hi, h => by
    have hb := rs_b L ch i
    unfold ffG at h
    by_cases a : (rsG L ch i).1 = false
    · rw [if_pos a] at h; cases h; omega
    · rw [if_neg a] at h
      by_cases b : (rsG L ch i).2 = L
      · rw [if_pos b] at h; cases h
      · rw [if_neg b] at h
        by_cases c : tx L ch (rsG L ch i).2 ≠ 44
        · rw [if_pos c] at h; cases h; omega
        · rw [if_neg c] at h
          have a2 : (rsG L ch i).1 = true := by cases z : (rsG L ch i).1 <;> first | rfl | exact absurd z a
          have := rs_gt a2
          exact ff_b hL (by omega) h
theorem fault_b {σ : Sg} (S : SI σ) {r : Nat} (h : faultG (zl σ) (zc σ) = some r) : r < 1000000 := ff_b S.2.2.2.2.1 (Nat.zero_le _) h

set_option maxRecDepth 100000 in
set_option maxHeartbeats 4000000 in
theorem X_playAll (g : jG) (w : jW) (X : Xs) (σ : Sg) (S : SI σ) (R : XR X σ)  : ConI g 6 yX2_playAll cX2_playAll 3 (some (.int)) [.ref (gr g 0)] (xw g w X) (fun x w' => x = (spAll σ).1 ∧ ∃ X', w' = xw g w X' ∧ XR X' (spAll σ).2) := by
  refine con_of (by decide +kernel) (Nat.le_of_ble_eq_true rfl) [(0, _)] rfl (fun K h => ?_)
  have P := XR_PD S R
  cases hf : faultG (zl σ) (zc σ) with
  | some r =>
    have hs : spAll σ = (-3, σ) := if_neg (by rw [hf]; intro z; cases z)
    refine j_aload_n h (q := 1) 0 dX2_playAll_0 rfl rfl ?_
    refine j_get h (q := 4) inX2 (C := RX2) (T := TX2) (N := 9) (ci := 2) rfl 5 (by decide) mF_X2_33 (by decide) (xw_0 _ _ _) rfl dX2_playAll_1 rfl ?_
    refine j_cV h (q := 7) (C := RX0) (T := TX0) (N := 2) (ci := 0) mo_X0_firstFault mI_X0_firstFault mV_X0_firstFault mL_X2_92 (p_firstFault g _ _ P) (by decide) (by decide) (xw_5 _ _ _) rfl rfl rfl (Nat.le_of_ble_eq_true rfl) dX2_playAll_4 rfl ?_
    rintro _ w4 ⟨x4, rfl, e⟩
    obtain ⟨rfl, rfl⟩ := e
    rw [hf]
    refine j_bipush h (q := 9) (-6) dX2_playAll_7 rfl (by decide) ?_
    refine j_icmp_eq h (tgt := 15) (q := 12) dX2_playAll_9 rfl (by decide) (fun c_9 => ?_) (fun c_9 => ?_)
    · exact absurd c_9 (nI_ne6 (fault_b S hf))
    refine j_bipush h (q := 14) (-3) dX2_playAll_12 rfl (by decide) ?_
    refine j_iret h rfl dX2_playAll_14 ?_
    refine ⟨_, rfl, by rw [hs], X, rfl, by rw [hs]; exact R⟩
  | none =>
    have hs : spAll σ = (nI (allG (zl σ) (zc σ) (zl σ + 1) (zg σ) 0).2, wipeG (recG σ (allG (zl σ) (zc σ) (zl σ + 1) (zg σ) 0).1)) := if_pos hf
    refine j_aload_n h (q := 1) 0 dX2_playAll_0 rfl rfl ?_
    refine j_get h (q := 4) inX2 (C := RX2) (T := TX2) (N := 9) (ci := 2) rfl 5 (by decide) mF_X2_33 (by decide) (xw_0 _ _ _) rfl dX2_playAll_1 rfl ?_
    refine j_cV h (q := 7) (C := RX0) (T := TX0) (N := 2) (ci := 0) mo_X0_firstFault mI_X0_firstFault mV_X0_firstFault mL_X2_92 (p_firstFault g _ _ P) (by decide) (by decide) (xw_5 _ _ _) rfl rfl rfl (Nat.le_of_ble_eq_true rfl) dX2_playAll_4 rfl ?_
    rintro _ w4 ⟨x4, rfl, e⟩
    obtain ⟨rfl, rfl⟩ := e
    rw [hf]
    refine j_bipush h (q := 9) (-6) dX2_playAll_7 rfl (by decide) ?_
    refine j_icmp_eq h (tgt := 15) (q := 12) dX2_playAll_9 rfl (by decide) (fun c_9 => ?_) (fun c_9 => ?_)
    rotate_left
    · exact absurd rfl c_9
    refine j_aload_n h (q := 16) 0 dX2_playAll_15 rfl rfl ?_
    refine j_cV h (q := 19) (C := RX2) (T := TX2) (N := 9) (ci := 2) mo_X2_remember mI_X2_remember mV_X2_remember mL_X2_52 (c_remember g _ _ σ S R) (by decide) (by decide) (xw_0 _ _ _) rfl rfl rfl (Nat.le_of_ble_eq_true rfl) dX2_playAll_16 rfl ?_
    rintro _ w16 ⟨rfl, e⟩
    obtain ⟨X1, rfl, R1, h1, hsl⟩ := e
    have R0 : TR (Xnow X1) (zg σ) := by rw [show Xnow X1 = Xnow X from h1]; exact R.1
    refine j_iconst h (q := 20) (0) dX2_playAll_19 rfl (by decide) ?_
    refine j_istore_n h (q := 21) (loc' := [(1, _), (0, _)]) dX2_playAll_20 rfl (by decide) rfl ?_
    refine j_iconst h (q := 22) (0) dX2_playAll_21 rfl (by decide) ?_
    refine j_istore_n h (q := 23) (loc' := [(2, _), (1, _), (0, _)]) dX2_playAll_22 rfl (by decide) rfl ?_
    refine j_stk rfl (show xw g w X1 = xw g w (yTab X1 0 (Xnow X1)) from rfl) ?_
    refine lp_all g w X1 (show PD X1 (zl σ) (zc σ) from ⟨R1.2.2.2.2.1, S.2.2.2.2.1, R1.2.2.2.2.2, S.2.2.2.2.2⟩) h (zl σ + 1) 0 (zg σ) 0 (Xnow X1) (Or.inr (ff_vt hf)) (Nat.le_refl _) (Nat.zero_le _) R0 S.1 (fun T2 l h9 => ?_)
    rw [Nat.zero_add]
    refine j_aload_n h (q := 66) 1 dX2_playAll_65 rfl rfl ?_
    refine j_get h (q := 69) inX2 (C := RX2) (T := TX2) (N := 9) (ci := 2) rfl 5 (by decide) mF_X2_33 (by decide) (xw_0 _ _ _) rfl dX2_playAll_66 rfl ?_
    refine j_cV h (q := 72) (C := RX0) (T := TX0) (N := 2) (ci := 0) mo_X0_clear mI_X0_clear mV_X0_clear mL_X2_104 (p_clear g _ _) (by decide) (by decide) (xw_5 _ _ _) rfl rfl rfl (Nat.le_of_ble_eq_true rfl) dX2_playAll_69 rfl ?_
    rintro _ w69 ⟨rfl, e⟩
    subst e
    refine j_iload_n h (q := 73) 0 dX2_playAll_72 rfl rfl ?_
    refine j_iret h rfl dX2_playAll_73 ?_
    refine ⟨_, rfl, by rw [hs], _, rfl, by rw [hs]; exact XR_wipe (XR_now R1 h9)⟩
