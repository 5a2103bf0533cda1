set_option maxRecDepth 100000 in
set_option maxHeartbeats 4000000 in
theorem M_side (g : jG) (w : jW) (M : Ms) (σ : Sg) (S : SI σ) (R : MX M σ) (a b : Int32)  : ConI g 2 yX3_side cX3_side 3 (some (.int)) [.ref (gr g 67), .int a, .int b] (mw g w M) (fun x w' => x = spSide (zg σ) a b ∧ ∃ M', w' = mw g w M' ∧ MX M' σ) := by
  refine con_of (by decide +kernel) (Nat.le_of_ble_eq_true rfl) [(0, _), (1, _), (2, _)] rfl (fun K h => ?_)
  by_cases ha : inn 2 a
  · obtain ⟨k, hk, rfl, hvk⟩ := inn_of (by decide) ha
    have hs : spSide (zg σ) (nI k) b = (if b = 0 then qp (zg σ) k else if b = 1 then nI (qf (zg σ) k) else if b = 2 then nI (leftG (qn (zg σ)) k) else if b = 3 then nI (longG (zg σ) k 4) else -2) := by unfold spSide; rw [if_pos ha, hvk]
    refine j_iload_n h (q := 1) 1 dX3_side_0 rfl rfl ?_
    refine j_iconst h (q := 2) (0) dX3_side_1 rfl (by decide) ?_
    refine j_iconst h (q := 3) (1) dX3_side_2 rfl (by decide) ?_
    refine j_cS h (q := 6) mo_X3_within mS_X3_within mL_X3_64 (m_within g _ _ _ _) (by decide) rfl rfl (Nat.le_of_ble_eq_true rfl) dX3_side_3 rfl ?_
    rintro _ w3 ⟨x3, rfl, e⟩
    obtain ⟨e1, rfl⟩ := e
    obtain rfl : x3 = 1 := e1.trans (b2i_dt (show ¬ (nI k) < 0 ∧ ¬ 1 < (nI k) from ((in_k (n := 1) (by decide)).mpr ha))).symm
    refine j_if_ne h (tgt := 12) (q := 9) dX3_side_6 rfl (by decide) (fun c_6 => ?_) (fun c_6 => ?_)
    rotate_left
    · exact absurd (show (1 : Int32) = 0 by assumption) (by decide)
    refine j_aload_n h (q := 13) 0 dX3_side_12 rfl rfl ?_
    refine j_cV h (q := 16) (C := RX3) (T := TX3) (N := 17) (ci := 3) mo_X3_look mI_X3_look mV_X3_look mL_X3_102 (m_look g w M (zg σ) R.1 S.1) (by decide) (by decide) (mw_0 _ _ _) rfl rfl rfl (Nat.le_of_ble_eq_true rfl) dX3_side_13 rfl ?_
    rintro _ w13 ⟨rfl, e⟩
    obtain ⟨sz, tp, rfl, L⟩ := e
    refine j_iload_n h (q := 17) 2 dX3_side_16 rfl rfl ?_
    by_cases hsw17 : (b).toInt < 0 ∨ 3 < (b).toInt
    · refine j_tableOut h (tgt := 82) dX3_side_17 hsw17 (by decide) ?_
      refine j_bipush h (q := 84) (-2) dX3_side_82 rfl (by decide) ?_
      refine j_iret h rfl dX3_side_84 ?_
      exact ⟨_, rfl, by rw [hs, if_neg (show ¬ b = 0 from sw_out (n := 3) (k := 0) hsw17 (by decide) (by decide)), if_neg (show ¬ b = 1 from sw_out (n := 3) (k := 1) hsw17 (by decide) (by decide)), if_neg (show ¬ b = 2 from sw_out (n := 3) (k := 2) hsw17 (by decide) (by decide)), if_neg (show ¬ b = 3 from sw_out (n := 3) (k := 3) hsw17 (by decide) (by decide))], _, rfl, MX_eq R ⟨rfl, rfl, rfl, rfl, rfl, rfl, rfl⟩ rfl⟩
    by_cases hs17_0 : b = 0
    · subst hs17_0
      refine j_tableIn h (tgt := 48) dX3_side_17 (by decide) (by decide) rfl (by decide) ?_
      refine j_aload_n h (q := 49) 0 dX3_side_48 rfl rfl ?_
      refine j_get h (q := 52) inX3 (C := RX3) (T := TX3) (N := 17) (ci := 3) rfl 0 (by decide) mF_X3_7 (by decide) (mw_0 _ _ _) rfl dX3_side_49 rfl ?_
      refine j_sipush h (q := 55) (208) dX3_side_52 rfl (by decide) ?_
      refine j_iload_n h (q := 56) 1 dX3_side_55 rfl rfl ?_
      refine j_iadd h (q := 57) dX3_side_56 rfl ?_
      refine j_ldn h (q := 58) (208 + k) (by decide) (mw_st _ _ _) (by first | rfl | (simp only [nI_add, i_addL, i_Ladd, i_mulL, i_Lmul]; done) | (simp only [nI_add, i_addL, i_Ladd, i_mulL, i_Lmul]; congr 1; omega)) (by omega) (by decide) dX3_side_57 rfl ?_
      refine j_iret h rfl dX3_side_58 ?_
      exact ⟨_, rfl, by rw [hs, if_pos rfl]; first | done | exact (M_pf R.1 hk).1, _, rfl, MX_eq R ⟨rfl, rfl, rfl, rfl, rfl, rfl, rfl⟩ rfl⟩
    by_cases hs17_1 : b = 1
    · subst hs17_1
      refine j_tableIn h (tgt := 59) dX3_side_17 (by decide) (by decide) rfl (by decide) ?_
      refine j_aload_n h (q := 60) 0 dX3_side_59 rfl rfl ?_
      refine j_get h (q := 63) inX3 (C := RX3) (T := TX3) (N := 17) (ci := 3) rfl 0 (by decide) mF_X3_7 (by decide) (mw_0 _ _ _) rfl dX3_side_60 rfl ?_
      refine j_sipush h (q := 66) (210) dX3_side_63 rfl (by decide) ?_
      refine j_iload_n h (q := 67) 1 dX3_side_66 rfl rfl ?_
      refine j_iadd h (q := 68) dX3_side_67 rfl ?_
      refine j_ldn h (q := 69) (210 + k) (by decide) (mw_st _ _ _) (by first | rfl | (simp only [nI_add, i_addL, i_Ladd, i_mulL, i_Lmul]; done) | (simp only [nI_add, i_addL, i_Ladd, i_mulL, i_Lmul]; congr 1; omega)) (by omega) (by decide) dX3_side_68 rfl ?_
      refine j_iret h rfl dX3_side_69 ?_
      exact ⟨_, rfl, by rw [hs, if_neg (by decide), if_pos rfl]; first | done | exact (M_pf R.1 hk).2, _, rfl, MX_eq R ⟨rfl, rfl, rfl, rfl, rfl, rfl, rfl⟩ rfl⟩
    by_cases hs17_2 : b = 2
    · subst hs17_2
      refine j_tableIn h (tgt := 70) dX3_side_17 (by decide) (by decide) rfl (by decide) ?_
      refine j_aload_n h (q := 71) 0 dX3_side_70 rfl rfl ?_
      refine j_iload_n h (q := 72) 1 dX3_side_71 rfl rfl ?_
      refine j_cV h (q := 75) (C := RX3) (T := TX3) (N := 17) (ci := 3) mo_X3_ownCards mI_X3_ownCards mV_X3_ownCards mL_X3_105 (m_ownCards g w (stp (ssz M sz) tp) (zg σ) L rfl hk) (by decide) (by decide) (mw_0 _ _ _) rfl rfl rfl (Nat.le_of_ble_eq_true rfl) dX3_side_72 rfl ?_
      rintro _ w72 ⟨x72, rfl, e⟩
      obtain ⟨rfl, rfl⟩ := e
      refine j_iret h rfl dX3_side_75 ?_
      exact ⟨_, rfl, by rw [hs, if_neg (by decide), if_neg (by decide), if_pos rfl], _, rfl, MX_eq R ⟨rfl, rfl, rfl, rfl, rfl, rfl, rfl⟩ rfl⟩
    have hs17_3 : b = 3 := sw_last4 (b) hsw17 hs17_0 hs17_1 hs17_2
    subst hs17_3
    refine j_tableIn h (tgt := 76) dX3_side_17 (by decide) (by decide) rfl (by decide) ?_
    refine j_aload_n h (q := 77) 0 dX3_side_76 rfl rfl ?_
    refine j_iload_n h (q := 78) 1 dX3_side_77 rfl rfl ?_
    refine j_cV h (q := 81) (C := RX3) (T := TX3) (N := 17) (ci := 3) mo_X3_longestHouse mI_X3_longestHouse mV_X3_longestHouse mL_X3_151 (m_longestHouse g w (stp (ssz M sz) tp) (zg σ) S.1 L hk) (by decide) (by decide) (mw_0 _ _ _) rfl rfl rfl (Nat.le_of_ble_eq_true rfl) dX3_side_78 rfl ?_
    rintro _ w78 ⟨x78, rfl, e⟩
    obtain ⟨rfl, rfl⟩ := e
    refine j_iret h rfl dX3_side_81 ?_
    exact ⟨_, rfl, by rw [hs, if_neg (by decide), if_neg (by decide), if_neg (by decide), if_pos rfl], _, rfl, MX_eq R ⟨rfl, rfl, rfl, rfl, rfl, rfl, rfl⟩ rfl⟩
  · have hs : spSide (zg σ) a b = -2 := if_neg ha
    refine j_iload_n h (q := 1) 1 dX3_side_0 rfl rfl ?_
    refine j_iconst h (q := 2) (0) dX3_side_1 rfl (by decide) ?_
    refine j_iconst h (q := 3) (1) dX3_side_2 rfl (by decide) ?_
    refine j_cS h (q := 6) mo_X3_within mS_X3_within mL_X3_64 (m_within g _ _ _ _) (by decide) rfl rfl (Nat.le_of_ble_eq_true rfl) dX3_side_3 rfl ?_
    rintro _ w3 ⟨x3, rfl, e⟩
    obtain ⟨e1, rfl⟩ := e
    obtain rfl : x3 = 0 := e1.trans (b2i_df (show ¬ (¬ a < 0 ∧ ¬ 1 < a) from (fun z => ha ((in_k (n := 1) (by decide)).mp z)))).symm
    refine j_if_ne h (tgt := 12) (q := 9) dX3_side_6 rfl (by decide) (fun c_6 => ?_) (fun c_6 => ?_)
    · exact absurd rfl c_6
    refine j_bipush h (q := 11) (-2) dX3_side_9 rfl (by decide) ?_
    refine j_iret h rfl dX3_side_11 ?_
    exact ⟨_, rfl, by first | (rw [hs]; done) | (rw [hs]; rfl), M, rfl, R⟩

set_option maxRecDepth 100000 in
set_option maxHeartbeats 4000000 in
theorem M_count (g : jG) (w : jW) (M : Ms) (σ : Sg) (S : SI σ) (R : MX M σ) (b : Int32)  : ConI g 6 yX3_count cX3_count 2 (some (.int)) [.ref (gr g 67), .int b] (mw g w M) (fun x w' => x = spCount σ b ∧ ∃ M', w' = mw g w M' ∧ MX M' σ) := by
  refine con_of (by decide +kernel) (Nat.le_of_ble_eq_true rfl) [(0, _), (1, _)] rfl (fun K h => ?_)
  refine j_aload_n h (q := 1) 0 dX3_count_0 rfl rfl ?_
  refine j_cV h (q := 4) (C := RX3) (T := TX3) (N := 17) (ci := 3) mo_X3_look mI_X3_look mV_X3_look mL_X3_102 (m_look g w M (zg σ) R.1 S.1) (by decide) (by decide) (mw_0 _ _ _) rfl rfl rfl (Nat.le_of_ble_eq_true rfl) dX3_count_1 rfl ?_
  rintro _ w1 ⟨rfl, e⟩
  obtain ⟨sz, tp, rfl, L⟩ := e
  refine j_iload_n h (q := 5) 1 dX3_count_4 rfl rfl ?_
  by_cases hsw5 : (b).toInt < 0 ∨ 8 < (b).toInt
  · refine j_tableOut h (tgt := 94) dX3_count_5 hsw5 (by decide) ?_
    refine j_bipush h (q := 96) (-2) dX3_count_94 rfl (by decide) ?_
    refine j_iret h rfl dX3_count_96 ?_
    exact ⟨_, rfl, by unfold spCount; rw [if_neg (show ¬ b = 0 from sw_out (n := 8) (k := 0) hsw5 (by decide) (by decide)), if_neg (show ¬ b = 1 from sw_out (n := 8) (k := 1) hsw5 (by decide) (by decide)), if_neg (show ¬ b = 2 from sw_out (n := 8) (k := 2) hsw5 (by decide) (by decide)), if_neg (show ¬ b = 3 from sw_out (n := 8) (k := 3) hsw5 (by decide) (by decide)), if_neg (show ¬ b = 4 from sw_out (n := 8) (k := 4) hsw5 (by decide) (by decide)), if_neg (show ¬ b = 5 from sw_out (n := 8) (k := 5) hsw5 (by decide) (by decide)), if_neg (show ¬ b = 6 from sw_out (n := 8) (k := 6) hsw5 (by decide) (by decide)), if_neg (show ¬ b = 7 from sw_out (n := 8) (k := 7) hsw5 (by decide) (by decide)), if_neg (show ¬ b = 8 from sw_out (n := 8) (k := 8) hsw5 (by decide) (by decide))], _, rfl, MX_eq R ⟨rfl, rfl, rfl, rfl, rfl, rfl, rfl⟩ rfl⟩
  by_cases hs5_0 : b = 0
  · subst hs5_0
    refine j_tableIn h (tgt := 56) dX3_count_5 (by decide) (by decide) rfl (by decide) ?_
    refine j_aload_n h (q := 57) 0 dX3_count_56 rfl rfl ?_
    refine j_get h (q := 60) inX3 (C := RX3) (T := TX3) (N := 17) (ci := 3) rfl 0 (by decide) mF_X3_7 (by decide) (mw_0 _ _ _) rfl dX3_count_57 rfl ?_
    refine j_sipush h (q := 63) (220) dX3_count_60 rfl (by decide) ?_
    refine j_iload_n h (q := 64) 1 dX3_count_63 rfl rfl ?_
    refine j_iadd h (q := 65) dX3_count_64 rfl ?_
    first
      | (refine j_ldn h (q := 66) (220) (by decide) (mw_st _ _ _) (show (220 : Int32) + 0 = nI 220 by decide) (by decide) (by decide) dX3_count_65 rfl ?_)
      | (refine j_ldn h (q := 66) (221) (by decide) (mw_st _ _ _) (show (220 : Int32) + 1 = nI 221 by decide) (by decide) (by decide) dX3_count_65 rfl ?_)
      | (refine j_ldn h (q := 66) (222) (by decide) (mw_st _ _ _) (show (220 : Int32) + 2 = nI 222 by decide) (by decide) (by decide) dX3_count_65 rfl ?_)
      | (refine j_ldn h (q := 66) (223) (by decide) (mw_st _ _ _) (show (220 : Int32) + 3 = nI 223 by decide) (by decide) (by decide) dX3_count_65 rfl ?_)
    refine j_iret h rfl dX3_count_66 ?_
    exact ⟨_, rfl, (M_sd R.1 : _ = nI (qt (zg σ))).trans (show nI (qt (zg σ)) = spCount σ 0 from rfl), _, rfl, MX_eq R ⟨rfl, rfl, rfl, rfl, rfl, rfl, rfl⟩ rfl⟩
  by_cases hs5_1 : b = 1
  · subst hs5_1
    refine j_tableIn h (tgt := 56) dX3_count_5 (by decide) (by decide) rfl (by decide) ?_
    refine j_aload_n h (q := 57) 0 dX3_count_56 rfl rfl ?_
    refine j_get h (q := 60) inX3 (C := RX3) (T := TX3) (N := 17) (ci := 3) rfl 0 (by decide) mF_X3_7 (by decide) (mw_0 _ _ _) rfl dX3_count_57 rfl ?_
    refine j_sipush h (q := 63) (220) dX3_count_60 rfl (by decide) ?_
    refine j_iload_n h (q := 64) 1 dX3_count_63 rfl rfl ?_
    refine j_iadd h (q := 65) dX3_count_64 rfl ?_
    first
      | (refine j_ldn h (q := 66) (220) (by decide) (mw_st _ _ _) (show (220 : Int32) + 0 = nI 220 by decide) (by decide) (by decide) dX3_count_65 rfl ?_)
      | (refine j_ldn h (q := 66) (221) (by decide) (mw_st _ _ _) (show (220 : Int32) + 1 = nI 221 by decide) (by decide) (by decide) dX3_count_65 rfl ?_)
      | (refine j_ldn h (q := 66) (222) (by decide) (mw_st _ _ _) (show (220 : Int32) + 2 = nI 222 by decide) (by decide) (by decide) dX3_count_65 rfl ?_)
      | (refine j_ldn h (q := 66) (223) (by decide) (mw_st _ _ _) (show (220 : Int32) + 3 = nI 223 by decide) (by decide) (by decide) dX3_count_65 rfl ?_)
    refine j_iret h rfl dX3_count_66 ?_
    exact ⟨_, rfl, (M_ov R.1 : _ = b2i (qo (zg σ))).trans (show b2i (qo (zg σ)) = spCount σ 1 from rfl), _, rfl, MX_eq R ⟨rfl, rfl, rfl, rfl, rfl, rfl, rfl⟩ rfl⟩
  by_cases hs5_2 : b = 2
  · subst hs5_2
    refine j_tableIn h (tgt := 56) dX3_count_5 (by decide) (by decide) rfl (by decide) ?_
    refine j_aload_n h (q := 57) 0 dX3_count_56 rfl rfl ?_
    refine j_get h (q := 60) inX3 (C := RX3) (T := TX3) (N := 17) (ci := 3) rfl 0 (by decide) mF_X3_7 (by decide) (mw_0 _ _ _) rfl dX3_count_57 rfl ?_
    refine j_sipush h (q := 63) (220) dX3_count_60 rfl (by decide) ?_
    refine j_iload_n h (q := 64) 1 dX3_count_63 rfl rfl ?_
    refine j_iadd h (q := 65) dX3_count_64 rfl ?_
    first
      | (refine j_ldn h (q := 66) (220) (by decide) (mw_st _ _ _) (show (220 : Int32) + 0 = nI 220 by decide) (by decide) (by decide) dX3_count_65 rfl ?_)
      | (refine j_ldn h (q := 66) (221) (by decide) (mw_st _ _ _) (show (220 : Int32) + 1 = nI 221 by decide) (by decide) (by decide) dX3_count_65 rfl ?_)
      | (refine j_ldn h (q := 66) (222) (by decide) (mw_st _ _ _) (show (220 : Int32) + 2 = nI 222 by decide) (by decide) (by decide) dX3_count_65 rfl ?_)
      | (refine j_ldn h (q := 66) (223) (by decide) (mw_st _ _ _) (show (220 : Int32) + 3 = nI 223 by decide) (by decide) (by decide) dX3_count_65 rfl ?_)
    refine j_iret h rfl dX3_count_66 ?_
    exact ⟨_, rfl, (M_dr R.1 : _ = nI (qd (zg σ))).trans (show nI (qd (zg σ)) = spCount σ 2 from rfl), _, rfl, MX_eq R ⟨rfl, rfl, rfl, rfl, rfl, rfl, rfl⟩ rfl⟩
  by_cases hs5_3 : b = 3
  · subst hs5_3
    refine j_tableIn h (tgt := 56) dX3_count_5 (by decide) (by decide) rfl (by decide) ?_
    refine j_aload_n h (q := 57) 0 dX3_count_56 rfl rfl ?_
    refine j_get h (q := 60) inX3 (C := RX3) (T := TX3) (N := 17) (ci := 3) rfl 0 (by decide) mF_X3_7 (by decide) (mw_0 _ _ _) rfl dX3_count_57 rfl ?_
    refine j_sipush h (q := 63) (220) dX3_count_60 rfl (by decide) ?_
    refine j_iload_n h (q := 64) 1 dX3_count_63 rfl rfl ?_
    refine j_iadd h (q := 65) dX3_count_64 rfl ?_
    first
      | (refine j_ldn h (q := 66) (220) (by decide) (mw_st _ _ _) (show (220 : Int32) + 0 = nI 220 by decide) (by decide) (by decide) dX3_count_65 rfl ?_)
      | (refine j_ldn h (q := 66) (221) (by decide) (mw_st _ _ _) (show (220 : Int32) + 1 = nI 221 by decide) (by decide) (by decide) dX3_count_65 rfl ?_)
      | (refine j_ldn h (q := 66) (222) (by decide) (mw_st _ _ _) (show (220 : Int32) + 2 = nI 222 by decide) (by decide) (by decide) dX3_count_65 rfl ?_)
      | (refine j_ldn h (q := 66) (223) (by decide) (mw_st _ _ _) (show (220 : Int32) + 3 = nI 223 by decide) (by decide) (by decide) dX3_count_65 rfl ?_)
    refine j_iret h rfl dX3_count_66 ?_
    exact ⟨_, rfl, (M_mv R.1 : _ = qm (zg σ)).trans (show qm (zg σ) = spCount σ 3 from rfl), _, rfl, MX_eq R ⟨rfl, rfl, rfl, rfl, rfl, rfl, rfl⟩ rfl⟩
  by_cases hs5_4 : b = 4
  · subst hs5_4
    refine j_tableIn h (tgt := 67) dX3_count_5 (by decide) (by decide) rfl (by decide) ?_
    refine j_aload_n h (q := 68) 0 dX3_count_67 rfl rfl ?_
    refine j_cV h (q := 71) (C := RX3) (T := TX3) (N := 17) (ci := 3) mo_X3_onAces mI_X3_onAces mV_X3_onAces mL_X3_154 (m_onAces g w (stp (ssz M sz) tp) (zg σ) S.1 L) (by decide) (by decide) (mw_0 _ _ _) rfl rfl rfl (Nat.le_of_ble_eq_true rfl) dX3_count_68 rfl ?_
    rintro _ w68 ⟨x68, rfl, e⟩
    obtain ⟨rfl, rfl⟩ := e
    refine j_iret h rfl dX3_count_71 ?_
    exact ⟨_, rfl, (rfl : _ = nI (acesG (zg σ) 8)).trans (show nI (acesG (zg σ) 8) = spCount σ 4 from rfl), _, rfl, MX_eq R ⟨rfl, rfl, rfl, rfl, rfl, rfl, rfl⟩ rfl⟩
  by_cases hs5_5 : b = 5
  · subst hs5_5
    refine j_tableIn h (tgt := 72) dX3_count_5 (by decide) (by decide) rfl (by decide) ?_
    refine j_aload_n h (q := 73) 0 dX3_count_72 rfl rfl ?_
    refine j_bipush h (q := 75) (-6) dX3_count_73 rfl (by decide) ?_
    refine j_cV h (q := 78) (C := RX3) (T := TX3) (N := 17) (ci := 3) mo_X3_findMove mI_X3_findMove mV_X3_findMove mL_X3_157 (m_findMove g w (stp (ssz M sz) tp) (zg σ) R.1 S.1 L (-6)) (by decide) (by decide) (mw_0 _ _ _) rfl rfl rfl (Nat.le_of_ble_eq_true rfl) dX3_count_75 rfl ?_
    rintro _ w75 ⟨x75, rfl, e⟩
    obtain ⟨rfl, a1, b1, rfl, -⟩ := e
    refine j_iret h rfl dX3_count_78 ?_
    exact ⟨_, rfl, (rfl : _ = nI (LM (zg σ) 308).length).trans (show nI (LM (zg σ) 308).length = spCount σ 5 from rfl), _, rfl, MX_eq R ⟨rfl, rfl, rfl, rfl, rfl, rfl, rfl⟩ rfl⟩
  by_cases hs5_6 : b = 6
  · subst hs5_6
    refine j_tableIn h (tgt := 79) dX3_count_5 (by decide) (by decide) rfl (by decide) ?_
    refine j_aload_n h (q := 80) 0 dX3_count_79 rfl rfl ?_
    refine j_cV h (q := 83) (C := RX3) (T := TX3) (N := 17) (ci := 3) mo_X3_frozenMany mI_X3_frozenMany mV_X3_frozenMany mL_X3_160 (m_frozenMany g w (stp (ssz M sz) tp) (zg σ) R.1 S.1) (by decide) (by decide) (mw_0 _ _ _) rfl rfl rfl (Nat.le_of_ble_eq_true rfl) dX3_count_80 rfl ?_
    rintro _ w80 ⟨x80, rfl, e⟩
    obtain ⟨rfl, rfl⟩ := e
    refine j_iret h rfl dX3_count_83 ?_
    exact ⟨_, rfl, (rfl : _ = nI (frzN (zg σ) 8)).trans (show nI (frzN (zg σ) 8) = spCount σ 6 from rfl), _, rfl, MX_eq R ⟨rfl, rfl, rfl, rfl, rfl, rfl, rfl⟩ rfl⟩
  by_cases hs5_7 : b = 7
  · subst hs5_7
    refine j_tableIn h (tgt := 84) dX3_count_5 (by decide) (by decide) rfl (by decide) ?_
    refine j_aload_n h (q := 85) 0 dX3_count_84 rfl rfl ?_
    refine j_get h (q := 88) inX3 (C := RX3) (T := TX3) (N := 17) (ci := 3) rfl 7 (by decide) mF_X3_163 (by decide) (mw_0 _ _ _) rfl dX3_count_85 rfl ?_
    refine j_iret h rfl dX3_count_88 ?_
    exact ⟨_, rfl, (R.2.2.2.2.1 : _ = nI (zl σ)).trans (show nI (zl σ) = spCount σ 7 from rfl), _, rfl, MX_eq R ⟨rfl, rfl, rfl, rfl, rfl, rfl, rfl⟩ rfl⟩
  have hs5_8 : b = 8 := sw_last9 (b) hsw5 hs5_0 hs5_1 hs5_2 hs5_3 hs5_4 hs5_5 hs5_6 hs5_7
  subst hs5_8
  refine j_tableIn h (tgt := 89) dX3_count_5 (by decide) (by decide) rfl (by decide) ?_
  refine j_aload_n h (q := 90) 0 dX3_count_89 rfl rfl ?_
  refine j_get h (q := 93) inX3 (C := RX3) (T := TX3) (N := 17) (ci := 3) rfl 3 (by decide) mF_X3_41 (by decide) (mw_0 _ _ _) rfl dX3_count_90 rfl ?_
  refine j_iret h rfl dX3_count_93 ?_
  exact ⟨_, rfl, (R.2.1 : _ = nI (zn σ)).trans (show nI (zn σ) = spCount σ 8 from rfl), _, rfl, MX_eq R ⟨rfl, rfl, rfl, rfl, rfl, rfl, rfl⟩ rfl⟩

theorem FM_in {γ : Gm} {k m : Nat} {a b : Int32} (h : FM γ (nI k) 308 a b) (hk : k < (LM γ 308).length) (hm : (LM γ 308)[k] = m) : a = nI (m / 22) ∧ b = nI (m % 22) := by
  have := h.1 k hk rfl
  rw [hm] at this; exact this
theorem FM_out {γ : Gm} (G : GI γ) {x a b : Int32} (h : FM γ x 308 a b) (hx : ¬ inn (LM γ 308).length x) : a = -6 := by
  have hl := list_170 G
  exact h.2 (fun j hj e => hx (by rw [e]; exact inn_n (by omega) hj))

set_option maxRecDepth 100000 in
set_option maxHeartbeats 4000000 in
theorem M_ofMove (g : jG) (w : jW) (M : Ms) (σ : Sg) (S : SI σ) (R : MX M σ) (a b : Int32)  : ConI g 6 yX3_ofMove cX3_ofMove 3 (some (.int)) [.ref (gr g 67), .int a, .int b] (mw g w M) (fun x w' => x = spOf (zg σ) a b ∧ ∃ M', w' = mw g w M' ∧ MX M' σ) := by
  refine con_of (by decide +kernel) (Nat.le_of_ble_eq_true rfl) [(0, _), (1, _), (2, _)] rfl (fun K h => ?_)
  have hl := list_170 S.1
  by_cases ha : inn (LM (zg σ) 308).length a
  · obtain ⟨k, hk, rfl, hvk⟩ := inn_of (by omega) ha
    obtain ⟨m, hm⟩ : ∃ m, (LM (zg σ) 308)[k] = m := ⟨_, rfl⟩
    have hm3 : m < 308 := by rw [← hm]; exact LM_lt hk
    have hmv : mvG (zg σ) (nI k) = m := by unfold mvG List.getD; rw [hvk, List.getElem?_eq_getElem hk]; exact hm
    have hokm : okG (zg σ) (m / 22) (m % 22) = true := by have q := LM_ok hk; rw [hm] at q; exact q
    have hs : spOf (zg σ) (nI k) b = (if b = 0 then nI (m / 22) else if b = 1 then nI (m % 22) else if b = 2 then nI (ptM (zg σ) m) else -2) := by unfold spOf; rw [if_pos ha, hmv]
    refine j_aload_n h (q := 1) 0 dX3_ofMove_0 rfl rfl ?_
    refine j_cV h (q := 4) (C := RX3) (T := TX3) (N := 17) (ci := 3) mo_X3_look mI_X3_look mV_X3_look mL_X3_102 (m_look g w M (zg σ) R.1 S.1) (by decide) (by decide) (mw_0 _ _ _) rfl rfl rfl (Nat.le_of_ble_eq_true rfl) dX3_ofMove_1 rfl ?_
    rintro _ w1 ⟨rfl, e⟩
    obtain ⟨sz, tp, rfl, L⟩ := e
    refine j_aload_n h (q := 5) 0 dX3_ofMove_4 rfl rfl ?_
    refine j_iload_n h (q := 6) 1 dX3_ofMove_5 rfl rfl ?_
    refine j_if_ge h (tgt := 14) (q := 9) dX3_ofMove_6 rfl (by decide) (fun c_6 => ?_) (fun c_6 => ?_)
    rotate_left
    · exact absurd (Int32.not_lt.mp (nI_pos (by omega))) c_6
    refine j_iload_n h (q := 15) 1 dX3_ofMove_14 rfl rfl ?_
    refine j_cV h (q := 18) (C := RX3) (T := TX3) (N := 17) (ci := 3) mo_X3_findMove mI_X3_findMove mV_X3_findMove mL_X3_157 (m_findMove g w (stp (ssz M sz) tp) (zg σ) R.1 S.1 L (nI k)) (by decide) (by decide) (mw_0 _ _ _) rfl rfl rfl (Nat.le_of_ble_eq_true rfl) dX3_ofMove_15 rfl ?_
    rintro _ w15 ⟨x15, rfl, e⟩
    obtain ⟨rfl, a1, b1, rfl, hF⟩ := e
    obtain ⟨rfl, rfl⟩ := FM_in hF hk hm
    refine j_pop h (q := 19) dX3_ofMove_18 rfl rfl ?_
    refine j_aload_n h (q := 20) 0 dX3_ofMove_19 rfl rfl ?_
    refine j_get h (q := 23) inX3 (C := RX3) (T := TX3) (N := 17) (ci := 3) rfl 11 (by decide) mF_X3_111 (by decide) (mw_0 _ _ _) rfl dX3_ofMove_20 rfl ?_
    refine j_bipush h (q := 25) (-6) dX3_ofMove_23 rfl (by decide) ?_
    refine j_icmp_ne h (tgt := 30) (q := 28) dX3_ofMove_25 rfl (by decide) (fun c_25 => ?_) (fun c_25 => ?_)
    rotate_left
    · exact absurd (show nI (m / 22) = -6 from c_25) (nI_ne6 (by omega))
    refine j_iload_n h (q := 31) 2 dX3_ofMove_30 rfl rfl ?_
    by_cases hsw31 : (b).toInt < 0 ∨ 2 < (b).toInt
    · refine j_tableOut h (tgt := 79) dX3_ofMove_31 hsw31 (by decide) ?_
      refine j_bipush h (q := 81) (-2) dX3_ofMove_79 rfl (by decide) ?_
      refine j_iret h rfl dX3_ofMove_81 ?_
      exact ⟨_, rfl, by rw [hs, if_neg (show ¬ b = 0 from sw_out (n := 2) (k := 0) hsw31 (by decide) (by decide)), if_neg (show ¬ b = 1 from sw_out (n := 2) (k := 1) hsw31 (by decide) (by decide)), if_neg (show ¬ b = 2 from sw_out (n := 2) (k := 2) hsw31 (by decide) (by decide))], _, rfl, MX_eq R ⟨rfl, rfl, rfl, rfl, rfl, rfl, rfl⟩ rfl⟩
    by_cases hs31_0 : b = 0
    · subst hs31_0
      refine j_tableIn h (tgt := 56) dX3_ofMove_31 (by decide) (by decide) rfl (by decide) ?_
      refine j_aload_n h (q := 57) 0 dX3_ofMove_56 rfl rfl ?_
      refine j_get h (q := 60) inX3 (C := RX3) (T := TX3) (N := 17) (ci := 3) rfl 11 (by decide) mF_X3_111 (by decide) (mw_0 _ _ _) rfl dX3_ofMove_57 rfl ?_
      refine j_iret h rfl dX3_ofMove_60 ?_
      exact ⟨_, rfl, by rw [hs, if_pos rfl], _, rfl, MX_eq R ⟨rfl, rfl, rfl, rfl, rfl, rfl, rfl⟩ rfl⟩
    by_cases hs31_1 : b = 1
    · subst hs31_1
      refine j_tableIn h (tgt := 61) dX3_ofMove_31 (by decide) (by decide) rfl (by decide) ?_
      refine j_aload_n h (q := 62) 0 dX3_ofMove_61 rfl rfl ?_
      refine j_get h (q := 65) inX3 (C := RX3) (T := TX3) (N := 17) (ci := 3) rfl 12 (by decide) mF_X3_117 (by decide) (mw_0 _ _ _) rfl dX3_ofMove_62 rfl ?_
      refine j_iret h rfl dX3_ofMove_65 ?_
      exact ⟨_, rfl, by rw [hs, if_neg (by decide), if_pos rfl], _, rfl, MX_eq R ⟨rfl, rfl, rfl, rfl, rfl, rfl, rfl⟩ rfl⟩
    have hs31_2 : b = 2 := sw_last3 (b) hsw31 hs31_0 hs31_1
    subst hs31_2
    refine j_tableIn h (tgt := 66) dX3_ofMove_31 (by decide) (by decide) rfl (by decide) ?_
    refine j_aload_n h (q := 67) 0 dX3_ofMove_66 rfl rfl ?_
    refine j_aload_n h (q := 68) 0 dX3_ofMove_67 rfl rfl ?_
    refine j_get h (q := 71) inX3 (C := RX3) (T := TX3) (N := 17) (ci := 3) rfl 11 (by decide) mF_X3_111 (by decide) (mw_0 _ _ _) rfl dX3_ofMove_68 rfl ?_
    refine j_aload_n h (q := 72) 0 dX3_ofMove_71 rfl rfl ?_
    refine j_get h (q := 75) inX3 (C := RX3) (T := TX3) (N := 17) (ci := 3) rfl 12 (by decide) mF_X3_117 (by decide) (mw_0 _ _ _) rfl dX3_ofMove_72 rfl ?_
    refine j_cV h (q := 78) (C := RX3) (T := TX3) (N := 17) (ci := 3) mo_X3_pointsFor mI_X3_pointsFor mV_X3_pointsFor mL_X3_98 (m_pointsFor g w (smm (stp (ssz M sz) tp) (nI (m / 22)) (nI (m % 22))) (zg σ) R.1 S.1 L rfl rfl (by omega) (by omega) hokm) (by decide) (by decide) (mw_0 _ _ _) rfl rfl rfl (Nat.le_of_ble_eq_true rfl) dX3_ofMove_75 rfl ?_
    rintro _ w75 ⟨x75, rfl, e⟩
    obtain ⟨rfl, rfl⟩ := e
    rw [show ptsG (zg σ) (m / 22) (m % 22) = ptM (zg σ) m from rfl]
    refine j_iret h rfl dX3_ofMove_78 ?_
    exact ⟨_, rfl, by rw [hs, if_neg (by decide), if_neg (by decide), if_pos rfl], _, rfl, MX_eq R ⟨rfl, rfl, rfl, rfl, rfl, rfl, rfl⟩ rfl⟩
  · have hs : spOf (zg σ) a b = -1 := if_neg ha
    by_cases h0 : a < 0
    · have h00 := 0
      refine j_aload_n h (q := 1) 0 dX3_ofMove_0 rfl rfl ?_
      refine j_cV h (q := 4) (C := RX3) (T := TX3) (N := 17) (ci := 3) mo_X3_look mI_X3_look mV_X3_look mL_X3_102 (m_look g w M (zg σ) R.1 S.1) (by decide) (by decide) (mw_0 _ _ _) rfl rfl rfl (Nat.le_of_ble_eq_true rfl) dX3_ofMove_1 rfl ?_
      rintro _ w1 ⟨rfl, e⟩
      obtain ⟨sz, tp, rfl, L⟩ := e
      refine j_aload_n h (q := 5) 0 dX3_ofMove_4 rfl rfl ?_
      refine j_iload_n h (q := 6) 1 dX3_ofMove_5 rfl rfl ?_
      refine j_if_ge h (tgt := 14) (q := 9) dX3_ofMove_6 rfl (by decide) (fun c_6 => ?_) (fun c_6 => ?_)
      · exact absurd h0 (Int32.not_lt.mpr c_6)
      refine j_bipush h (q := 11) (-6) dX3_ofMove_9 rfl (by decide) ?_
      refine j_goto h (tgt := 15) dX3_ofMove_11 (by decide) ?_
      refine j_cV h (q := 18) (C := RX3) (T := TX3) (N := 17) (ci := 3) mo_X3_findMove mI_X3_findMove mV_X3_findMove mL_X3_157 (m_findMove g w (stp (ssz M sz) tp) (zg σ) R.1 S.1 L (-6)) (by decide) (by decide) (mw_0 _ _ _) rfl rfl rfl (Nat.le_of_ble_eq_true rfl) dX3_ofMove_15 rfl ?_
      rintro _ w15 ⟨x15, rfl, e⟩
      obtain ⟨rfl, a1, b1, rfl, hF⟩ := e
      obtain rfl := FM_out S.1 hF (fun z => absurd (show (-6 : Int32) < 0 by decide) z.1)
      refine j_pop h (q := 19) dX3_ofMove_18 rfl rfl ?_
      refine j_aload_n h (q := 20) 0 dX3_ofMove_19 rfl rfl ?_
      refine j_get h (q := 23) inX3 (C := RX3) (T := TX3) (N := 17) (ci := 3) rfl 11 (by decide) mF_X3_111 (by decide) (mw_0 _ _ _) rfl dX3_ofMove_20 rfl ?_
      refine j_bipush h (q := 25) (-6) dX3_ofMove_23 rfl (by decide) ?_
      refine j_icmp_ne h (tgt := 30) (q := 28) dX3_ofMove_25 rfl (by decide) (fun c_25 => ?_) (fun c_25 => ?_)
      · exact absurd rfl c_25
      refine j_iconst h (q := 29) (-1) dX3_ofMove_28 rfl (by decide) ?_
      refine j_iret h rfl dX3_ofMove_29 ?_
      exact ⟨_, rfl, by rw [hs], _, rfl, MX_eq R ⟨rfl, rfl, rfl, rfl, rfl, rfl, rfl⟩ rfl⟩
    · have h00 := 0
      refine j_aload_n h (q := 1) 0 dX3_ofMove_0 rfl rfl ?_
      refine j_cV h (q := 4) (C := RX3) (T := TX3) (N := 17) (ci := 3) mo_X3_look mI_X3_look mV_X3_look mL_X3_102 (m_look g w M (zg σ) R.1 S.1) (by decide) (by decide) (mw_0 _ _ _) rfl rfl rfl (Nat.le_of_ble_eq_true rfl) dX3_ofMove_1 rfl ?_
      rintro _ w1 ⟨rfl, e⟩
      obtain ⟨sz, tp, rfl, L⟩ := e
      refine j_aload_n h (q := 5) 0 dX3_ofMove_4 rfl rfl ?_
      refine j_iload_n h (q := 6) 1 dX3_ofMove_5 rfl rfl ?_
      refine j_if_ge h (tgt := 14) (q := 9) dX3_ofMove_6 rfl (by decide) (fun c_6 => ?_) (fun c_6 => ?_)
      rotate_left
      · exact absurd (Int32.not_lt.mp h0) c_6
      refine j_iload_n h (q := 15) 1 dX3_ofMove_14 rfl rfl ?_
      refine j_cV h (q := 18) (C := RX3) (T := TX3) (N := 17) (ci := 3) mo_X3_findMove mI_X3_findMove mV_X3_findMove mL_X3_157 (m_findMove g w (stp (ssz M sz) tp) (zg σ) R.1 S.1 L (a)) (by decide) (by decide) (mw_0 _ _ _) rfl rfl rfl (Nat.le_of_ble_eq_true rfl) dX3_ofMove_15 rfl ?_
      rintro _ w15 ⟨x15, rfl, e⟩
      obtain ⟨rfl, a1, b1, rfl, hF⟩ := e
      obtain rfl := FM_out S.1 hF ha
      refine j_pop h (q := 19) dX3_ofMove_18 rfl rfl ?_
      refine j_aload_n h (q := 20) 0 dX3_ofMove_19 rfl rfl ?_
      refine j_get h (q := 23) inX3 (C := RX3) (T := TX3) (N := 17) (ci := 3) rfl 11 (by decide) mF_X3_111 (by decide) (mw_0 _ _ _) rfl dX3_ofMove_20 rfl ?_
      refine j_bipush h (q := 25) (-6) dX3_ofMove_23 rfl (by decide) ?_
      refine j_icmp_ne h (tgt := 30) (q := 28) dX3_ofMove_25 rfl (by decide) (fun c_25 => ?_) (fun c_25 => ?_)
      · exact absurd rfl c_25
      refine j_iconst h (q := 29) (-1) dX3_ofMove_28 rfl (by decide) ?_
      refine j_iret h rfl dX3_ofMove_29 ?_
      exact ⟨_, rfl, by rw [hs], _, rfl, MX_eq R ⟨rfl, rfl, rfl, rfl, rfl, rfl, rfl⟩ rfl⟩

set_option maxRecDepth 100000 in
set_option maxHeartbeats 4000000 in
theorem M_best (g : jG) (w : jW) (M : Ms) (σ : Sg) (S : SI σ) (R : MX M σ)  : ConI g 6 yX3_best cX3_best 1 (some (.int)) [.ref (gr g 67)] (mw g w M) (fun x w' => x = bestI (zg σ) ∧ ∃ M', w' = mw g w M' ∧ MX M' σ) := by
  refine con_of (by decide +kernel) (Nat.le_of_ble_eq_true rfl) [(0, _)] rfl (fun K h => ?_)
  refine j_aload_n h (q := 1) 0 dX3_best_0 rfl rfl ?_
  refine j_cV h (q := 4) (C := RX3) (T := TX3) (N := 17) (ci := 3) mo_X3_look mI_X3_look mV_X3_look mL_X3_102 (m_look g w M (zg σ) R.1 S.1) (by decide) (by decide) (mw_0 _ _ _) rfl rfl rfl (Nat.le_of_ble_eq_true rfl) dX3_best_1 rfl ?_
  rintro _ w1 ⟨rfl, e⟩
  obtain ⟨sz, tp, rfl, L⟩ := e
  refine j_aload_n h (q := 5) 0 dX3_best_4 rfl rfl ?_
  refine j_cV h (q := 8) (C := RX3) (T := TX3) (N := 17) (ci := 3) mo_X3_findBest mI_X3_findBest mV_X3_findBest mL_X3_120 (m_findBest g w (stp (ssz M sz) tp) (zg σ) R.1 S.1 L) (by decide) (by decide) (mw_0 _ _ _) rfl rfl rfl (Nat.le_of_ble_eq_true rfl) dX3_best_5 rfl ?_
  rintro _ w5 ⟨x5, rfl, e⟩
  obtain ⟨rfl, rfl⟩ := e
  refine j_iret h rfl dX3_best_8 ?_
  exact ⟨_, rfl, rfl, _, rfl, MX_eq R ⟨rfl, rfl, rfl, rfl, rfl, rfl, rfl⟩ rfl⟩

set_option maxRecDepth 100000 in
set_option maxHeartbeats 4000000 in
theorem M_ifPlayed (g : jG) (w : jW) (M : Ms) (σ : Sg) (S : SI σ) (R : MX M σ) (a b : Int32)  : ConI g 7 yX3_ifPlayed cX3_ifPlayed 4 (some (.int)) [.ref (gr g 67), .int a, .int b] (mw g w M) (fun x w' => x = spIf (zg σ) a b ∧ ∃ M', w' = mw g w M' ∧ MX M' σ) := by
  refine con_of (by decide +kernel) (Nat.le_of_ble_eq_true rfl) [(0, _), (1, _), (2, _)] rfl (fun K h => ?_)
  by_cases ha : (¬ a < 1 ∧ ¬ 200 < a) ∧ ¬ b < 0 ∧ ¬ 3 < b
  · obtain ⟨k, hk, rfl, hvk⟩ := inn_of (n := 201) (by decide) (inn_1 ha.1.1 ha.1.2 (by decide))
    obtain ⟨q, hq, rfl, hvq⟩ := inn_of (n := 4) (by decide) ((in_k (n := 3) (by decide)).mp ha.2)
    have hs : spIf (zg σ) (nI k) (nI q) = (if nI q = 0 then qp (playG k (zg σ)) 0 else if nI q = 1 then qp (playG k (zg σ)) 1 else if nI q = 2 then nI (acesG (playG k (zg σ)) 8) else nI (qd (playG k (zg σ))) - nI (qd (zg σ))) := by unfold spIf; rw [if_pos ha, hvk]
    refine j_iload_n h (q := 1) 1 dX3_ifPlayed_0 rfl rfl ?_
    refine j_iconst h (q := 2) (1) dX3_ifPlayed_1 rfl (by decide) ?_
    refine j_sipush h (q := 5) (200) dX3_ifPlayed_2 rfl (by decide) ?_
    refine j_cS h (q := 8) mo_X3_within mS_X3_within mL_X3_64 (m_within g _ _ _ _) (by decide) rfl rfl (Nat.le_of_ble_eq_true rfl) dX3_ifPlayed_5 rfl ?_
    rintro _ w5 ⟨x5, rfl, e⟩
    obtain ⟨e1, rfl⟩ := e
    obtain rfl : x5 = 1 := e1.trans (b2i_dt (show ¬ (nI k) < 1 ∧ ¬ 200 < (nI k) from ha.1)).symm
    refine j_if_eq h (tgt := 20) (q := 11) dX3_ifPlayed_8 rfl (by decide) (fun c_8 => ?_) (fun c_8 => ?_)
    · exact absurd c_8 (by decide)
    refine j_iload_n h (q := 12) 2 dX3_ifPlayed_11 rfl rfl ?_
    refine j_iconst h (q := 13) (0) dX3_ifPlayed_12 rfl (by decide) ?_
    refine j_iconst h (q := 14) (3) dX3_ifPlayed_13 rfl (by decide) ?_
    refine j_cS h (q := 17) mo_X3_within mS_X3_within mL_X3_64 (m_within g _ _ _ _) (by decide) rfl rfl (Nat.le_of_ble_eq_true rfl) dX3_ifPlayed_14 rfl ?_
    rintro _ w14 ⟨x14, rfl, e⟩
    obtain ⟨e1, rfl⟩ := e
    obtain rfl : x14 = 1 := e1.trans (b2i_dt (show ¬ (nI q) < 0 ∧ ¬ 3 < (nI q) from ha.2)).symm
    refine j_if_ne h (tgt := 23) (q := 20) dX3_ifPlayed_17 rfl (by decide) (fun c_17 => ?_) (fun c_17 => ?_)
    rotate_left
    · exact absurd (show (1 : Int32) = 0 by assumption) (by decide)
    refine j_aload_n h (q := 24) 0 dX3_ifPlayed_23 rfl rfl ?_
    refine j_get h (q := 27) inX3 (C := RX3) (T := TX3) (N := 17) (ci := 3) rfl 0 (by decide) mF_X3_7 (by decide) (mw_0 _ _ _) rfl dX3_ifPlayed_24 rfl ?_
    refine j_iconst h (q := 28) (0) dX3_ifPlayed_27 rfl (by decide) ?_
    refine j_aload_n h (q := 29) 0 dX3_ifPlayed_28 rfl rfl ?_
    refine j_get h (q := 32) inX3 (C := RX3) (T := TX3) (N := 17) (ci := 3) rfl 1 (by decide) mF_X3_13 (by decide) (mw_0 _ _ _) rfl dX3_ifPlayed_29 rfl ?_
    refine j_iconst h (q := 33) (0) dX3_ifPlayed_32 rfl (by decide) ?_
    refine j_cS h (q := 36) mo_X3_moves mS_X3_moves mL_X3_45 (m_moves g (mw g w M) (z := 68) (y := 69) (n := 224) (m := 224) (a := 0) (b := 0) (f := Mst M) (u := Mkp M) ⟨by decide, by decide, mw_st _ _ _⟩ ⟨by decide, by decide, mw_kp _ _ _⟩ (by decide) rfl rfl (by decide) (by decide) (by decide) (by decide)) (by decide) rfl rfl (Nat.le_of_ble_eq_true rfl) dX3_ifPlayed_33 rfl ?_
    rintro _ w33 ⟨rfl, e⟩
    subst e
    refine j_stk rfl (show va_up (mw g w M) 69 (.inl (gI g, 224, .inl (mvR (Mst M) 0 (Mkp M) 0 224))) = mw g w (skp M (mvR (Mst M) 0 (Mkp M) 0 224)) from mw_ukp) ?_
    refine j_aload_n h (q := 37) 0 dX3_ifPlayed_36 rfl rfl ?_
    refine j_iload_n h (q := 38) 1 dX3_ifPlayed_37 rfl rfl ?_
    refine j_cV h (q := 41) (C := RX3) (T := TX3) (N := 17) (ci := 3) mo_X3_plays mI_X3_plays mV_X3_plays mL_X3_145 (m_plays g w (skp M (mvR (Mst M) 0 (Mkp M) 0 224)) (zg σ) R.1 S.1 (steps := k) rfl (by omega)) (by decide) (by decide) (mw_0 _ _ _) rfl rfl rfl (Nat.le_of_ble_eq_true rfl) dX3_ifPlayed_38 rfl ?_
    rintro _ w38 ⟨x38, rfl, e⟩
    obtain ⟨rfl, M2, rfl, R2, k2⟩ := e
    have G2 := GI_play k _ S.1
    have hkp : ∀ j, j < 224 → Mkp M2 j = Mst M j := fun j hj => by rw [k2.2.2.2.2.2.2]; show mvR (Mst M) 0 (Mkp M) 0 224 j = _; have q9 := mvR_in (Mst M) 0 (Mkp M) 0 hj; rw [Nat.zero_add] at q9; exact q9
    refine j_pop h (q := 42) dX3_ifPlayed_41 rfl rfl ?_
    refine j_aload_n h (q := 43) 0 dX3_ifPlayed_42 rfl rfl ?_
    refine j_cV h (q := 46) (C := RX3) (T := TX3) (N := 17) (ci := 3) mo_X3_look mI_X3_look mV_X3_look mL_X3_102 (m_look g w M2 (playG k (zg σ)) R2 G2) (by decide) (by decide) (mw_0 _ _ _) rfl rfl rfl (Nat.le_of_ble_eq_true rfl) dX3_ifPlayed_43 rfl ?_
    rintro _ w43 ⟨rfl, e⟩
    obtain ⟨sz, tp, rfl, L⟩ := e
    have Rz : MR (mvR (Mkp (stp (ssz M2 sz) tp)) 0 (Mst (stp (ssz M2 sz) tp)) 0 224) (zg σ) := MR_cong R.1 S.1 (fun j hj => by have q9 := mvR_in (Mkp (stp (ssz M2 sz) tp)) 0 (Mst (stp (ssz M2 sz) tp)) 0 hj; rw [Nat.zero_add] at q9; rw [q9]; exact hkp j hj)
    refine j_iload_n h (q := 47) 2 dX3_ifPlayed_46 rfl rfl ?_
    refine j_iconst h (q := 48) (2) dX3_ifPlayed_47 rfl (by decide) ?_
    refine j_icmp_ge h (tgt := 64) (q := 51) dX3_ifPlayed_48 rfl (by decide) (fun c_48 => ?_) (fun c_48 => ?_)
    · rw [i_Lle (by omega) (by decide)] at c_48
      refine j_iload_n h (q := 65) 2 dX3_ifPlayed_64 rfl rfl ?_
      refine j_iconst h (q := 66) (2) dX3_ifPlayed_65 rfl (by decide) ?_
      refine j_icmp_ne h (tgt := 76) (q := 69) dX3_ifPlayed_66 rfl (by decide) (fun c_66 => ?_) (fun c_66 => ?_)
      · rw [i_eqL (by omega) (by decide)] at c_66
        refine j_aload_n h (q := 77) 0 dX3_ifPlayed_76 rfl rfl ?_
        refine j_get h (q := 80) inX3 (C := RX3) (T := TX3) (N := 17) (ci := 3) rfl 0 (by decide) mF_X3_7 (by decide) (mw_0 _ _ _) rfl dX3_ifPlayed_77 rfl ?_
        refine j_sipush h (q := 83) (222) dX3_ifPlayed_80 rfl (by decide) ?_
        refine j_ldn h (q := 84) (222) (by decide) (mw_st _ _ _) rfl (by decide) (by decide) dX3_ifPlayed_83 rfl ?_
        rw [show Mst (stp (ssz M2 sz) tp) 222 = nI (qd (playG k (zg σ))) from M_dr R2]
        refine j_aload_n h (q := 85) 0 dX3_ifPlayed_84 rfl rfl ?_
        refine j_get h (q := 88) inX3 (C := RX3) (T := TX3) (N := 17) (ci := 3) rfl 1 (by decide) mF_X3_13 (by decide) (mw_0 _ _ _) rfl dX3_ifPlayed_85 rfl ?_
        refine j_sipush h (q := 91) (222) dX3_ifPlayed_88 rfl (by decide) ?_
        refine j_ldn h (q := 92) (222) (by decide) (mw_kp _ _ _) rfl (by decide) (by decide) dX3_ifPlayed_91 rfl ?_
        rw [show Mkp (stp (ssz M2 sz) tp) 222 = nI (qd (zg σ)) from (hkp 222 (by decide)).trans (M_dr R.1)]
        refine j_isub h (q := 93) dX3_ifPlayed_92 rfl ?_
        refine j_istore_n h (q := 94) (loc' := [(3, _), (0, _), (1, _), (2, _)]) dX3_ifPlayed_93 rfl (by decide) rfl ?_
        refine j_aload_n h (q := 95) 1 dX3_ifPlayed_94 rfl rfl ?_
        refine j_get h (q := 98) inX3 (C := RX3) (T := TX3) (N := 17) (ci := 3) rfl 1 (by decide) mF_X3_13 (by decide) (mw_0 _ _ _) rfl dX3_ifPlayed_95 rfl ?_
        refine j_iconst h (q := 99) (0) dX3_ifPlayed_98 rfl (by decide) ?_
        refine j_aload_n h (q := 100) 1 dX3_ifPlayed_99 rfl rfl ?_
        refine j_get h (q := 103) inX3 (C := RX3) (T := TX3) (N := 17) (ci := 3) rfl 0 (by decide) mF_X3_7 (by decide) (mw_0 _ _ _) rfl dX3_ifPlayed_100 rfl ?_
        refine j_iconst h (q := 104) (0) dX3_ifPlayed_103 rfl (by decide) ?_
        refine j_cS h (q := 107) mo_X3_moves mS_X3_moves mL_X3_45 (m_moves g (mw g w (stp (ssz M2 sz) tp)) (z := 69) (y := 68) (n := 224) (m := 224) (a := 0) (b := 0) (f := Mkp (stp (ssz M2 sz) tp)) (u := Mst (stp (ssz M2 sz) tp)) ⟨by decide, by decide, mw_kp _ _ _⟩ ⟨by decide, by decide, mw_st _ _ _⟩ (by decide) rfl rfl (by decide) (by decide) (by decide) (by decide)) (by decide) rfl rfl (Nat.le_of_ble_eq_true rfl) dX3_ifPlayed_104 rfl ?_
        rintro _ w104 ⟨rfl, e⟩
        subst e
        refine j_stk rfl (show va_up (mw g w (stp (ssz M2 sz) tp)) 68 (.inl (gI g, 224, .inl (mvR (Mkp (stp (ssz M2 sz) tp)) 0 (Mst (stp (ssz M2 sz) tp)) 0 224))) = mw g w (sst (stp (ssz M2 sz) tp) (mvR (Mkp (stp (ssz M2 sz) tp)) 0 (Mst (stp (ssz M2 sz) tp)) 0 224)) from mw_ust) ?_
        refine j_iload_n h (q := 108) 0 dX3_ifPlayed_107 rfl rfl ?_
        refine j_iret h rfl dX3_ifPlayed_108 ?_
        exact ⟨_, rfl, by rw [hs, show q = 3 by omega]; rfl, _, rfl, MX_st (show MX (skp M (mvR (Mst M) 0 (Mkp M) 0 224)) σ from R) k2 Rz⟩
      · rw [i_eqL (by omega) (by decide)] at c_66
        refine j_aload_n h (q := 70) 0 dX3_ifPlayed_69 rfl rfl ?_
        refine j_cV h (q := 73) (C := RX3) (T := TX3) (N := 17) (ci := 3) mo_X3_onAces mI_X3_onAces mV_X3_onAces mL_X3_154 (m_onAces g w (stp (ssz M2 sz) tp) (playG k (zg σ)) G2 L) (by decide) (by decide) (mw_0 _ _ _) rfl rfl rfl (Nat.le_of_ble_eq_true rfl) dX3_ifPlayed_70 rfl ?_
        rintro _ w70 ⟨x70, rfl, e⟩
        obtain ⟨rfl, rfl⟩ := e
        refine j_goto h (tgt := 93) dX3_ifPlayed_73 (by decide) ?_
        refine j_istore_n h (q := 94) (loc' := [(3, _), (0, _), (1, _), (2, _)]) dX3_ifPlayed_93 rfl (by decide) rfl ?_
        refine j_aload_n h (q := 95) 1 dX3_ifPlayed_94 rfl rfl ?_
        refine j_get h (q := 98) inX3 (C := RX3) (T := TX3) (N := 17) (ci := 3) rfl 1 (by decide) mF_X3_13 (by decide) (mw_0 _ _ _) rfl dX3_ifPlayed_95 rfl ?_
        refine j_iconst h (q := 99) (0) dX3_ifPlayed_98 rfl (by decide) ?_
        refine j_aload_n h (q := 100) 1 dX3_ifPlayed_99 rfl rfl ?_
        refine j_get h (q := 103) inX3 (C := RX3) (T := TX3) (N := 17) (ci := 3) rfl 0 (by decide) mF_X3_7 (by decide) (mw_0 _ _ _) rfl dX3_ifPlayed_100 rfl ?_
        refine j_iconst h (q := 104) (0) dX3_ifPlayed_103 rfl (by decide) ?_
        refine j_cS h (q := 107) mo_X3_moves mS_X3_moves mL_X3_45 (m_moves g (mw g w (stp (ssz M2 sz) tp)) (z := 69) (y := 68) (n := 224) (m := 224) (a := 0) (b := 0) (f := Mkp (stp (ssz M2 sz) tp)) (u := Mst (stp (ssz M2 sz) tp)) ⟨by decide, by decide, mw_kp _ _ _⟩ ⟨by decide, by decide, mw_st _ _ _⟩ (by decide) rfl rfl (by decide) (by decide) (by decide) (by decide)) (by decide) rfl rfl (Nat.le_of_ble_eq_true rfl) dX3_ifPlayed_104 rfl ?_
        rintro _ w104 ⟨rfl, e⟩
        subst e
        refine j_stk rfl (show va_up (mw g w (stp (ssz M2 sz) tp)) 68 (.inl (gI g, 224, .inl (mvR (Mkp (stp (ssz M2 sz) tp)) 0 (Mst (stp (ssz M2 sz) tp)) 0 224))) = mw g w (sst (stp (ssz M2 sz) tp) (mvR (Mkp (stp (ssz M2 sz) tp)) 0 (Mst (stp (ssz M2 sz) tp)) 0 224)) from mw_ust) ?_
        refine j_iload_n h (q := 108) 0 dX3_ifPlayed_107 rfl rfl ?_
        refine j_iret h rfl dX3_ifPlayed_108 ?_
        exact ⟨_, rfl, by rw [hs, c_66]; rfl, _, rfl, MX_st (show MX (skp M (mvR (Mst M) 0 (Mkp M) 0 224)) σ from R) k2 Rz⟩
    · rw [i_Lle (by omega) (by decide)] at c_48
      refine j_aload_n h (q := 52) 0 dX3_ifPlayed_51 rfl rfl ?_
      refine j_get h (q := 55) inX3 (C := RX3) (T := TX3) (N := 17) (ci := 3) rfl 0 (by decide) mF_X3_7 (by decide) (mw_0 _ _ _) rfl dX3_ifPlayed_52 rfl ?_
      refine j_sipush h (q := 58) (208) dX3_ifPlayed_55 rfl (by decide) ?_
      refine j_iload_n h (q := 59) 2 dX3_ifPlayed_58 rfl rfl ?_
      refine j_iadd h (q := 60) dX3_ifPlayed_59 rfl ?_
      refine j_ldn h (q := 61) (208 + q) (by decide) (mw_st _ _ _) (by first | rfl | (simp only [nI_add, i_addL, i_Ladd, i_mulL, i_Lmul]; done) | (simp only [nI_add, i_addL, i_Ladd, i_mulL, i_Lmul]; congr 1; omega)) (by omega) (by decide) dX3_ifPlayed_60 rfl ?_
      rw [show Mst (stp (ssz M2 sz) tp) (208 + q) = qp (playG k (zg σ)) q from (M_pf R2 (by omega)).1]
      refine j_goto h (tgt := 93) dX3_ifPlayed_61 (by decide) ?_
      refine j_istore_n h (q := 94) (loc' := [(3, _), (0, _), (1, _), (2, _)]) dX3_ifPlayed_93 rfl (by decide) rfl ?_
      refine j_aload_n h (q := 95) 1 dX3_ifPlayed_94 rfl rfl ?_
      refine j_get h (q := 98) inX3 (C := RX3) (T := TX3) (N := 17) (ci := 3) rfl 1 (by decide) mF_X3_13 (by decide) (mw_0 _ _ _) rfl dX3_ifPlayed_95 rfl ?_
      refine j_iconst h (q := 99) (0) dX3_ifPlayed_98 rfl (by decide) ?_
      refine j_aload_n h (q := 100) 1 dX3_ifPlayed_99 rfl rfl ?_
      refine j_get h (q := 103) inX3 (C := RX3) (T := TX3) (N := 17) (ci := 3) rfl 0 (by decide) mF_X3_7 (by decide) (mw_0 _ _ _) rfl dX3_ifPlayed_100 rfl ?_
      refine j_iconst h (q := 104) (0) dX3_ifPlayed_103 rfl (by decide) ?_
      refine j_cS h (q := 107) mo_X3_moves mS_X3_moves mL_X3_45 (m_moves g (mw g w (stp (ssz M2 sz) tp)) (z := 69) (y := 68) (n := 224) (m := 224) (a := 0) (b := 0) (f := Mkp (stp (ssz M2 sz) tp)) (u := Mst (stp (ssz M2 sz) tp)) ⟨by decide, by decide, mw_kp _ _ _⟩ ⟨by decide, by decide, mw_st _ _ _⟩ (by decide) rfl rfl (by decide) (by decide) (by decide) (by decide)) (by decide) rfl rfl (Nat.le_of_ble_eq_true rfl) dX3_ifPlayed_104 rfl ?_
      rintro _ w104 ⟨rfl, e⟩
      subst e
      refine j_stk rfl (show va_up (mw g w (stp (ssz M2 sz) tp)) 68 (.inl (gI g, 224, .inl (mvR (Mkp (stp (ssz M2 sz) tp)) 0 (Mst (stp (ssz M2 sz) tp)) 0 224))) = mw g w (sst (stp (ssz M2 sz) tp) (mvR (Mkp (stp (ssz M2 sz) tp)) 0 (Mst (stp (ssz M2 sz) tp)) 0 224)) from mw_ust) ?_
      refine j_iload_n h (q := 108) 0 dX3_ifPlayed_107 rfl rfl ?_
      refine j_iret h rfl dX3_ifPlayed_108 ?_
      exact ⟨_, rfl, by rw [hs]; rcases (show q = 0 ∨ q = 1 by omega) with rfl | rfl <;> rfl, _, rfl, MX_st (show MX (skp M (mvR (Mst M) 0 (Mkp M) 0 224)) σ from R) k2 Rz⟩
  · have hs : spIf (zg σ) a b = -2 := if_neg ha
    by_cases h1 : ¬ a < 1 ∧ ¬ 200 < a
    · have h2 : ¬ (¬ b < 0 ∧ ¬ 3 < b) := fun z => ha ⟨h1, z⟩
      refine j_iload_n h (q := 1) 1 dX3_ifPlayed_0 rfl rfl ?_
      refine j_iconst h (q := 2) (1) dX3_ifPlayed_1 rfl (by decide) ?_
      refine j_sipush h (q := 5) (200) dX3_ifPlayed_2 rfl (by decide) ?_
      refine j_cS h (q := 8) mo_X3_within mS_X3_within mL_X3_64 (m_within g _ _ _ _) (by decide) rfl rfl (Nat.le_of_ble_eq_true rfl) dX3_ifPlayed_5 rfl ?_
      rintro _ w5 ⟨x5, rfl, e⟩
      obtain ⟨e1, rfl⟩ := e
      obtain rfl : x5 = 1 := e1.trans (b2i_dt (show ¬ a < 1 ∧ ¬ 200 < a from h1)).symm
      refine j_if_eq h (tgt := 20) (q := 11) dX3_ifPlayed_8 rfl (by decide) (fun c_8 => ?_) (fun c_8 => ?_)
      · exact absurd c_8 (by decide)
      refine j_iload_n h (q := 12) 2 dX3_ifPlayed_11 rfl rfl ?_
      refine j_iconst h (q := 13) (0) dX3_ifPlayed_12 rfl (by decide) ?_
      refine j_iconst h (q := 14) (3) dX3_ifPlayed_13 rfl (by decide) ?_
      refine j_cS h (q := 17) mo_X3_within mS_X3_within mL_X3_64 (m_within g _ _ _ _) (by decide) rfl rfl (Nat.le_of_ble_eq_true rfl) dX3_ifPlayed_14 rfl ?_
      rintro _ w14 ⟨x14, rfl, e⟩
      obtain ⟨e1, rfl⟩ := e
      obtain rfl : x14 = 0 := e1.trans (b2i_df (show ¬ (¬ b < 0 ∧ ¬ 3 < b) from h2)).symm
      refine j_if_ne h (tgt := 23) (q := 20) dX3_ifPlayed_17 rfl (by decide) (fun c_17 => ?_) (fun c_17 => ?_)
      · exact absurd rfl c_17
      refine j_bipush h (q := 22) (-2) dX3_ifPlayed_20 rfl (by decide) ?_
      refine j_iret h rfl dX3_ifPlayed_22 ?_
      exact ⟨_, rfl, by first | (rw [hs]; done) | (rw [hs]; rfl), M, rfl, R⟩
    · have h00 := 0
      refine j_iload_n h (q := 1) 1 dX3_ifPlayed_0 rfl rfl ?_
      refine j_iconst h (q := 2) (1) dX3_ifPlayed_1 rfl (by decide) ?_
      refine j_sipush h (q := 5) (200) dX3_ifPlayed_2 rfl (by decide) ?_
      refine j_cS h (q := 8) mo_X3_within mS_X3_within mL_X3_64 (m_within g _ _ _ _) (by decide) rfl rfl (Nat.le_of_ble_eq_true rfl) dX3_ifPlayed_5 rfl ?_
      rintro _ w5 ⟨x5, rfl, e⟩
      obtain ⟨e1, rfl⟩ := e
      obtain rfl : x5 = 0 := e1.trans (b2i_df (show ¬ (¬ a < 1 ∧ ¬ 200 < a) from h1)).symm
      refine j_if_eq h (tgt := 20) (q := 11) dX3_ifPlayed_8 rfl (by decide) (fun c_8 => ?_) (fun c_8 => ?_)
      rotate_left
      · exact absurd (by decide) c_8
      refine j_bipush h (q := 22) (-2) dX3_ifPlayed_20 rfl (by decide) ?_
      refine j_iret h rfl dX3_ifPlayed_22 ?_
      exact ⟨_, rfl, by first | (rw [hs]; done) | (rw [hs]; rfl), M, rfl, R⟩

set_option maxRecDepth 100000 in
set_option maxHeartbeats 4000000 in
theorem lp_someM (g : jG) (w : jW) (M : Ms) {K : jK} {Φ : Option Value → jW → Prop} (h : jH g K RX3 cX3_fitsSomeAces 4 (some (.boolean))) {γ : Gm} (R : MR (Mst M) γ) (G : GI γ) (L : LK M γ) {c : Nat} (hc : c < 104) (k : J g 2 K 4 Φ 36 [(3, .int (nI (14 + 8))), (2, .int (b2i (someA γ c 8))), (0, .ref (gr g 67)), (1, .int (nI c))] [] (mw g w M)) : ∀ n i, i + n = 8 → J g 2 K 4 Φ 5 [(3, .int (nI (14 + i))), (2, .int (b2i (someA γ c i))), (0, .ref (gr g 67)), (1, .int (nI c))] [] (mw g w M) := by
  intro n
  induction n with
  | zero =>
    intro i hi
    have hiN : i = 8 := by omega
    subst hiN
    refine j_iload_n h (q := 6) 0 dX3_fitsSomeAces_5 rfl rfl ?_
    refine j_bipush h (q := 8) (22) dX3_fitsSomeAces_6 rfl (by decide) ?_
    refine j_icmp_ge h (tgt := 36) (q := 11) dX3_fitsSomeAces_8 rfl (by decide) (fun c_8 => ?_) (fun c_8 => ?_)
    rotate_left
    · exact absurd (show (22 : Int32) ≤ nI (14 + 8) by decide) c_8
    exact k
  | succ n ih =>
    intro i hi
    refine j_iload_n h (q := 6) 0 dX3_fitsSomeAces_5 rfl rfl ?_
    refine j_bipush h (q := 8) (22) dX3_fitsSomeAces_6 rfl (by decide) ?_
    refine j_icmp_ge h (tgt := 36) (q := 11) dX3_fitsSomeAces_8 rfl (by decide) (fun c_8 => ?_) (fun c_8 => ?_)
    · exact absurd c_8 (by rw [i_Lle (by omega) (by omega)]; omega)
    refine j_iload_n h (q := 12) 1 dX3_fitsSomeAces_11 rfl rfl ?_
    refine j_if_ne h (tgt := 24) (q := 15) dX3_fitsSomeAces_12 rfl (by decide) (fun c_12 => ?_) (fun c_12 => ?_)
    · rw [b2i_1] at c_12
      refine j_iconst h (q := 25) (1) dX3_fitsSomeAces_24 rfl (by decide) ?_
      refine j_goto h (tgt := 29) dX3_fitsSomeAces_25 (by decide) ?_
      refine j_istore_n h (q := 30) (loc' := [(2, _), (3, _), (0, _), (1, _)]) dX3_fitsSomeAces_29 rfl (by decide) rfl ?_
      refine j_iinc h (q := 33) (loc' := [(3, _), (2, _), (0, _), (1, _)]) 1 _ dX3_fitsSomeAces_30 rfl rfl rfl (by decide) rfl ?_
      refine j_goto h (tgt := 5) dX3_fitsSomeAces_33 (by decide) ?_
      rw [show nI (14 + i) + Int32.ofInt 1 = nI ((14 + i) + 1) from nI_1 (14 + i)]
      have q := ih (i + 1) (by omega)
      first
        | (rw [show someA γ c (i + 1) = true by show (someA γ c i || fA c (topO γ (14 + i))) = true; rw [c_12]; rfl] at q
           exact j_sub [0, 1, 2, 3] rfl q)
        | (rw [show someA γ c (i + 1) = true by show (someA γ c i || fA c (topO γ (14 + i))) = true; rw [c_12, c_21]; rfl] at q
           exact j_sub [0, 1, 2, 3] rfl q)
        | (rw [show someA γ c (i + 1) = false by show (someA γ c i || fA c (topO γ (14 + i))) = false; rw [c_12, c_21]; rfl] at q
           exact j_sub [0, 1, 2, 3] rfl q)
    · rw [b2i_0] at c_12
      refine j_aload_n h (q := 16) 2 dX3_fitsSomeAces_15 rfl rfl ?_
      refine j_iload_n h (q := 17) 3 dX3_fitsSomeAces_16 rfl rfl ?_
      refine j_iload_n h (q := 18) 0 dX3_fitsSomeAces_17 rfl rfl ?_
      refine j_cV h (q := 21) (C := RX3) (T := TX3) (N := 17) (ci := 3) mo_X3_fitsAces mI_X3_fitsAces mV_X3_fitsAces mL_X3_88 (m_fitsAces g w M γ R G L hc (a := nI (14 + i)) rfl (by omega)) (by decide) (by decide) (mw_0 _ _ _) rfl rfl rfl (Nat.le_of_ble_eq_true rfl) dX3_fitsSomeAces_18 rfl ?_
      rintro _ w18 ⟨x18, rfl, e⟩
      obtain ⟨rfl, rfl⟩ := e
      refine j_if_eq h (tgt := 28) (q := 24) dX3_fitsSomeAces_21 rfl (by decide) (fun c_21 => ?_) (fun c_21 => ?_)
      · rw [b2i_0] at c_21
        refine j_iconst h (q := 29) (0) dX3_fitsSomeAces_28 rfl (by decide) ?_
        refine j_istore_n h (q := 30) (loc' := [(2, _), (3, _), (0, _), (1, _)]) dX3_fitsSomeAces_29 rfl (by decide) rfl ?_
        refine j_iinc h (q := 33) (loc' := [(3, _), (2, _), (0, _), (1, _)]) 1 _ dX3_fitsSomeAces_30 rfl rfl rfl (by decide) rfl ?_
        refine j_goto h (tgt := 5) dX3_fitsSomeAces_33 (by decide) ?_
        rw [show nI (14 + i) + Int32.ofInt 1 = nI ((14 + i) + 1) from nI_1 (14 + i)]
        have q := ih (i + 1) (by omega)
        first
          | (rw [show someA γ c (i + 1) = true by show (someA γ c i || fA c (topO γ (14 + i))) = true; rw [c_12]; rfl] at q
             exact j_sub [0, 1, 2, 3] rfl q)
          | (rw [show someA γ c (i + 1) = true by show (someA γ c i || fA c (topO γ (14 + i))) = true; rw [c_12, c_21]; rfl] at q
             exact j_sub [0, 1, 2, 3] rfl q)
          | (rw [show someA γ c (i + 1) = false by show (someA γ c i || fA c (topO γ (14 + i))) = false; rw [c_12, c_21]; rfl] at q
             exact j_sub [0, 1, 2, 3] rfl q)
      · rw [b2i_1] at c_21
        refine j_iconst h (q := 25) (1) dX3_fitsSomeAces_24 rfl (by decide) ?_
        refine j_goto h (tgt := 29) dX3_fitsSomeAces_25 (by decide) ?_
        refine j_istore_n h (q := 30) (loc' := [(2, _), (3, _), (0, _), (1, _)]) dX3_fitsSomeAces_29 rfl (by decide) rfl ?_
        refine j_iinc h (q := 33) (loc' := [(3, _), (2, _), (0, _), (1, _)]) 1 _ dX3_fitsSomeAces_30 rfl rfl rfl (by decide) rfl ?_
        refine j_goto h (tgt := 5) dX3_fitsSomeAces_33 (by decide) ?_
        rw [show nI (14 + i) + Int32.ofInt 1 = nI ((14 + i) + 1) from nI_1 (14 + i)]
        have q := ih (i + 1) (by omega)
        first
          | (rw [show someA γ c (i + 1) = true by show (someA γ c i || fA c (topO γ (14 + i))) = true; rw [c_12]; rfl] at q
             exact j_sub [0, 1, 2, 3] rfl q)
          | (rw [show someA γ c (i + 1) = true by show (someA γ c i || fA c (topO γ (14 + i))) = true; rw [c_12, c_21]; rfl] at q
             exact j_sub [0, 1, 2, 3] rfl q)
          | (rw [show someA γ c (i + 1) = false by show (someA γ c i || fA c (topO γ (14 + i))) = false; rw [c_12, c_21]; rfl] at q
             exact j_sub [0, 1, 2, 3] rfl q)

set_option maxRecDepth 100000 in
set_option maxHeartbeats 4000000 in
theorem m_fitsSomeAces (g : jG) (w : jW) (M : Ms) (γ : Gm) (R : MR (Mst M) γ) (G : GI γ) (L : LK M γ) {c : Nat} (hc : c < 104)  : ConI g 2 yX3_fitsSomeAces cX3_fitsSomeAces 4 (some (.boolean)) [.ref (gr g 67), .int (nI c)] (mw g w M) (fun x w' => x = b2i (!qo γ && someA γ c 8) ∧ w' = mw g w M) := by
  refine con_of (by decide +kernel) (Nat.le_of_ble_eq_true rfl) [(0, _), (1, _)] rfl (fun K h => ?_)
  refine j_iconst h (q := 1) (0) dX3_fitsSomeAces_0 rfl (by decide) ?_
  refine j_istore_n h (q := 2) (loc' := [(2, _), (0, _), (1, _)]) dX3_fitsSomeAces_1 rfl (by decide) rfl ?_
  refine j_bipush h (q := 4) (14) dX3_fitsSomeAces_2 rfl (by decide) ?_
  refine j_istore_n h (q := 5) (loc' := [(3, _), (2, _), (0, _), (1, _)]) dX3_fitsSomeAces_4 rfl (by decide) rfl ?_
  refine j_sub [0, 1, 2, 3] rfl ?_
  refine lp_someM g w M h R G L hc ?_ 8 0 rfl
  refine j_iload_n h (q := 37) 1 dX3_fitsSomeAces_36 rfl rfl ?_
  refine j_if_eq h (tgt := 55) (q := 40) dX3_fitsSomeAces_37 rfl (by decide) (fun c_37 => ?_) (fun c_37 => ?_)
  · rw [b2i_0] at c_37
    refine j_iconst h (q := 56) (0) dX3_fitsSomeAces_55 rfl (by decide) ?_
    refine j_zret h rfl (by first | rfl | exact b2i_n _) dX3_fitsSomeAces_56 ?_
    exact ⟨_, rfl, b2i_f (by rw [c_37, Bool.and_false]), rfl⟩
  · rw [b2i_1] at c_37
    refine j_aload_n h (q := 41) 2 dX3_fitsSomeAces_40 rfl rfl ?_
    refine j_get h (q := 44) inX3 (C := RX3) (T := TX3) (N := 17) (ci := 3) rfl 0 (by decide) mF_X3_7 (by decide) (mw_0 _ _ _) rfl dX3_fitsSomeAces_41 rfl ?_
    refine j_sipush h (q := 47) (221) dX3_fitsSomeAces_44 rfl (by decide) ?_
    refine j_ldn h (q := 48) (221) (by decide) (mw_st _ _ _) rfl (by decide) (by decide) dX3_fitsSomeAces_47 rfl ?_
    rw [M_ov R]
    refine j_if_ne h (tgt := 55) (q := 51) dX3_fitsSomeAces_48 rfl (by decide) (fun c_48 => ?_) (fun c_48 => ?_)
    · rw [b2i_1] at c_48
      refine j_iconst h (q := 56) (0) dX3_fitsSomeAces_55 rfl (by decide) ?_
      refine j_zret h rfl (by first | rfl | exact b2i_n _) dX3_fitsSomeAces_56 ?_
      exact ⟨_, rfl, b2i_f (by rw [c_48]; rfl), rfl⟩
    · rw [b2i_0] at c_48
      refine j_iconst h (q := 52) (1) dX3_fitsSomeAces_51 rfl (by decide) ?_
      refine j_goto h (tgt := 56) dX3_fitsSomeAces_52 (by decide) ?_
      refine j_zret h rfl (by first | rfl | exact b2i_n _) dX3_fitsSomeAces_56 ?_
      exact ⟨_, rfl, b2i_t (by rw [c_48, c_37]; rfl), rfl⟩

set_option maxRecDepth 100000 in
set_option maxHeartbeats 4000000 in
theorem M_buried (g : jG) (w : jW) (M : Ms) (σ : Sg) (S : SI σ) (R : MX M σ) (a : Int32) {p0 i0 : Nat} (hl : inn 104 a → p0 < 22 ∧ i0 < qn (zg σ) p0 ∧ qc (zg σ) p0 i0 = vv a)  : ConI g 3 yX3_buried cX3_buried 2 (some (.int)) [.ref (gr g 67), .int a] (mw g w M) (fun x w' => x = spBuried (zg σ) p0 i0 a ∧ ∃ M', w' = mw g w M' ∧ MX M' σ) := by
  refine con_of (by decide +kernel) (Nat.le_of_ble_eq_true rfl) [(0, _), (1, _)] rfl (fun K h => ?_)
  by_cases ha : inn 104 a
  · obtain ⟨hp, hi, hq⟩ := hl ha
    obtain ⟨k, hk, rfl, hvk⟩ := inn_of (by decide) ha
    rw [hvk] at hq
    obtain ⟨l1, l2⟩ := M_pl R.1 hp hi
    rw [hq] at l1 l2
    have hn := G_n2 S.1 hp
    have hs : spBuried (zg σ) p0 i0 (nI k) = nI (qn (zg σ) p0 - 1 - i0 + bif (!qo (zg σ) && someA (zg σ) k 8) then 1000 else 0) := by unfold spBuried; rw [if_pos ha, hvk]
    refine j_iload_n h (q := 1) 1 dX3_buried_0 rfl rfl ?_
    refine j_cS h (q := 4) mo_X3_isCard mS_X3_isCard mL_X3_148 (m_isCard g _ _) (by decide) rfl rfl (Nat.le_of_ble_eq_true rfl) dX3_buried_1 rfl ?_
    rintro _ w1 ⟨x1, rfl, e⟩
    obtain ⟨e1, rfl⟩ := e
    obtain rfl : x1 = 1 := e1.trans (b2i_dt (show inn 104 (nI k) from ha)).symm
    refine j_if_ne h (tgt := 9) (q := 7) dX3_buried_4 rfl (by decide) (fun c_4 => ?_) (fun c_4 => ?_)
    rotate_left
    · exact absurd (show (1 : Int32) = 0 by assumption) (by decide)
    refine j_aload_n h (q := 10) 0 dX3_buried_9 rfl rfl ?_
    refine j_cV h (q := 13) (C := RX3) (T := TX3) (N := 17) (ci := 3) mo_X3_look mI_X3_look mV_X3_look mL_X3_102 (m_look g w M (zg σ) R.1 S.1) (by decide) (by decide) (mw_0 _ _ _) rfl rfl rfl (Nat.le_of_ble_eq_true rfl) dX3_buried_10 rfl ?_
    rintro _ w10 ⟨rfl, e⟩
    obtain ⟨sz, tp, rfl, L⟩ := e
    refine j_aload_n h (q := 14) 0 dX3_buried_13 rfl rfl ?_
    refine j_get h (q := 17) inX3 (C := RX3) (T := TX3) (N := 17) (ci := 3) rfl 8 (by decide) mF_X3_28 (by decide) (mw_0 _ _ _) rfl dX3_buried_14 rfl ?_
    refine j_aload_n h (q := 18) 0 dX3_buried_17 rfl rfl ?_
    refine j_get h (q := 21) inX3 (C := RX3) (T := TX3) (N := 17) (ci := 3) rfl 0 (by decide) mF_X3_7 (by decide) (mw_0 _ _ _) rfl dX3_buried_18 rfl ?_
    refine j_iconst h (q := 22) (0) dX3_buried_21 rfl (by decide) ?_
    refine j_iload_n h (q := 23) 1 dX3_buried_22 rfl rfl ?_
    refine j_iadd h (q := 24) dX3_buried_23 rfl ?_
    refine j_ldn h (q := 25) (k) (by decide) (mw_st _ _ _) (by first | rfl | (simp only [nI_add, i_addL, i_Ladd, i_mulL, i_Lmul]; done) | (simp only [nI_add, i_addL, i_Ladd, i_mulL, i_Lmul]; congr 1; omega)) (by omega) (by decide) dX3_buried_24 rfl ?_
    rw [show Mst (stp (ssz M sz) tp) k = nI p0 from l1]
    refine j_ldn h (q := 26) (p0) (by decide) (mw_sz _ _ _) rfl hp (by decide) dX3_buried_25 rfl ?_
    rw [show Msz (stp (ssz M sz) tp) p0 = nI (qn (zg σ) p0) from (L p0 hp).1]
    refine j_iconst h (q := 27) (1) dX3_buried_26 rfl (by decide) ?_
    refine j_isub h (q := 28) dX3_buried_27 rfl ?_
    refine j_aload_n h (q := 29) 0 dX3_buried_28 rfl rfl ?_
    refine j_get h (q := 32) inX3 (C := RX3) (T := TX3) (N := 17) (ci := 3) rfl 0 (by decide) mF_X3_7 (by decide) (mw_0 _ _ _) rfl dX3_buried_29 rfl ?_
    refine j_bipush h (q := 34) (104) dX3_buried_32 rfl (by decide) ?_
    refine j_iload_n h (q := 35) 1 dX3_buried_34 rfl rfl ?_
    refine j_iadd h (q := 36) dX3_buried_35 rfl ?_
    refine j_ldn h (q := 37) (104 + k) (by decide) (mw_st _ _ _) (by first | rfl | (simp only [nI_add, i_addL, i_Ladd, i_mulL, i_Lmul]; done) | (simp only [nI_add, i_addL, i_Ladd, i_mulL, i_Lmul]; congr 1; omega)) (by omega) (by decide) dX3_buried_36 rfl ?_
    rw [show Mst (stp (ssz M sz) tp) (104 + k) = nI i0 from l2]
    refine j_isub h (q := 38) dX3_buried_37 rfl ?_
    refine j_aload_n h (q := 39) 0 dX3_buried_38 rfl rfl ?_
    refine j_iload_n h (q := 40) 1 dX3_buried_39 rfl rfl ?_
    refine j_cV h (q := 43) (C := RX3) (T := TX3) (N := 17) (ci := 3) mo_X3_fitsSomeAces mI_X3_fitsSomeAces mV_X3_fitsSomeAces mL_X3_166 (m_fitsSomeAces g w (stp (ssz M sz) tp) (zg σ) R.1 S.1 L hk) (by decide) (by decide) (mw_0 _ _ _) rfl rfl rfl (Nat.le_of_ble_eq_true rfl) dX3_buried_40 rfl ?_
    rintro _ w40 ⟨x40, rfl, e⟩
    obtain ⟨rfl, rfl⟩ := e
    rw [i_subL (by omega), nI_sub (by omega)]
    refine j_if_eq h (tgt := 52) (q := 46) dX3_buried_43 rfl (by decide) (fun c_43 => ?_) (fun c_43 => ?_)
    · rw [b2i_0] at c_43
      refine j_iconst h (q := 53) (0) dX3_buried_52 rfl (by decide) ?_
      refine j_iadd h (q := 54) dX3_buried_53 rfl ?_
      refine j_iret h rfl dX3_buried_54 ?_
      exact ⟨_, rfl, by rw [hs, c_43]; exact i_addL _ 0, _, rfl, MX_eq R ⟨rfl, rfl, rfl, rfl, rfl, rfl, rfl⟩ rfl⟩
    · rw [b2i_1] at c_43
      refine j_sipush h (q := 49) (1000) dX3_buried_46 rfl (by decide) ?_
      refine j_goto h (tgt := 53) dX3_buried_49 (by decide) ?_
      refine j_iadd h (q := 54) dX3_buried_53 rfl ?_
      refine j_iret h rfl dX3_buried_54 ?_
      exact ⟨_, rfl, by rw [hs, c_43]; exact i_addL _ 1000, _, rfl, MX_eq R ⟨rfl, rfl, rfl, rfl, rfl, rfl, rfl⟩ rfl⟩
  · have hs : spBuried (zg σ) p0 i0 a = -1 := if_neg ha
    refine j_iload_n h (q := 1) 1 dX3_buried_0 rfl rfl ?_
    refine j_cS h (q := 4) mo_X3_isCard mS_X3_isCard mL_X3_148 (m_isCard g _ _) (by decide) rfl rfl (Nat.le_of_ble_eq_true rfl) dX3_buried_1 rfl ?_
    rintro _ w1 ⟨x1, rfl, e⟩
    obtain ⟨e1, rfl⟩ := e
    obtain rfl : x1 = 0 := e1.trans (b2i_df (show ¬ inn 104 a from ha)).symm
    refine j_if_ne h (tgt := 9) (q := 7) dX3_buried_4 rfl (by decide) (fun c_4 => ?_) (fun c_4 => ?_)
    · exact absurd rfl c_4
    refine j_iconst h (q := 8) (-1) dX3_buried_7 rfl (by decide) ?_
    refine j_iret h rfl dX3_buried_8 ?_
    exact ⟨_, rfl, by first | (rw [hs]; done) | (rw [hs]; rfl), M, rfl, R⟩
