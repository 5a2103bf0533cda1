theorem in_k {a : Int32} {n : Nat} (hn : n < 1000) : (¬ a < 0 ∧ ¬ nI n < a) ↔ inn (n + 1) a := by
  rw [inn, i32_lt (nI n) a, i32_lt a (nI (n + 1)), nI_toInt (by omega), nI_toInt (by omega)]
  constructor <;> rintro ⟨x, y⟩ <;> exact ⟨x, by omega⟩
theorem LK_c {M M' : Ms} {γ : Gm} (h : LK M γ) (h1 : Msz M' = Msz M) (h2 : Mtp M' = Mtp M) : LK M' γ := by
  intro p hp
  rw [h1, h2]; exact h p hp
theorem ne1_b {b : Bool} (h : ¬ b2i b = 1) : b = false := by cases b <;> first | rfl | exact absurd rfl h
theorem eq1_b {b : Bool} (h : b2i b = 1) : b = true := by cases b <;> first | rfl | exact absurd h (by decide)

set_option maxRecDepth 100000 in
set_option maxHeartbeats 4000000 in
theorem m_why1 (g : jG) (w : jW) (M : Ms) (a b : Int32) (hab : ¬ (inn 22 a ∧ inn 22 b))  : ConI g 4 yX3_whyNoMove cX3_whyNoMove 3 (some (.int)) [.ref (gr g 67), .int a, .int b] (mw g w M) (fun x w' => x = -1 ∧ w' = mw g w M) := by
  refine con_of (by decide +kernel) (Nat.le_of_ble_eq_true rfl) [(0, _), (1, _), (2, _)] rfl (fun K h => ?_)
  by_cases ha : inn 22 a
  · have hb : ¬ inn 22 b := fun z => hab ⟨ha, z⟩
    refine j_iload_n h (q := 1) 1 dX3_whyNoMove_0 rfl rfl ?_
    refine j_cS h (q := 4) mo_X3_isPile mS_X3_isPile mL_X3_133 (m_isPile g _ _) (by decide) rfl rfl (Nat.le_of_ble_eq_true rfl) dX3_whyNoMove_1 rfl ?_
    rintro _ w1 ⟨x1, rfl, e⟩
    obtain ⟨e1, rfl⟩ := e
    obtain rfl : x1 = 1 := e1.trans (b2i_dt (show inn 22 a from ha)).symm
    refine j_if_eq h (tgt := 14) (q := 7) dX3_whyNoMove_4 rfl (by decide) (fun c_4 => ?_) (fun c_4 => ?_)
    · exact absurd c_4 (by decide)
    refine j_iload_n h (q := 8) 2 dX3_whyNoMove_7 rfl rfl ?_
    refine j_cS h (q := 11) mo_X3_isPile mS_X3_isPile mL_X3_133 (m_isPile g _ _) (by decide) rfl rfl (Nat.le_of_ble_eq_true rfl) dX3_whyNoMove_8 rfl ?_
    rintro _ w8 ⟨x8, rfl, e⟩
    obtain ⟨e1, rfl⟩ := e
    obtain rfl : x8 = 0 := e1.trans (b2i_df (show ¬ inn 22 b from hb)).symm
    refine j_if_ne h (tgt := 16) (q := 14) dX3_whyNoMove_11 rfl (by decide) (fun c_11 => ?_) (fun c_11 => ?_)
    · exact absurd rfl c_11
    refine j_iconst h (q := 15) (-1) dX3_whyNoMove_14 rfl (by decide) ?_
    refine j_iret h rfl dX3_whyNoMove_15 ?_
    exact ⟨_, rfl, rfl, rfl⟩
  · have h00 := 0
    refine j_iload_n h (q := 1) 1 dX3_whyNoMove_0 rfl rfl ?_
    refine j_cS h (q := 4) mo_X3_isPile mS_X3_isPile mL_X3_133 (m_isPile g _ _) (by decide) rfl rfl (Nat.le_of_ble_eq_true rfl) dX3_whyNoMove_1 rfl ?_
    rintro _ w1 ⟨x1, rfl, e⟩
    obtain ⟨e1, rfl⟩ := e
    obtain rfl : x1 = 0 := e1.trans (b2i_df (show ¬ inn 22 a from ha)).symm
    refine j_if_eq h (tgt := 14) (q := 7) dX3_whyNoMove_4 rfl (by decide) (fun c_4 => ?_) (fun c_4 => ?_)
    rotate_left
    · exact absurd (by decide) c_4
    refine j_iconst h (q := 15) (-1) dX3_whyNoMove_14 rfl (by decide) ?_
    refine j_iret h rfl dX3_whyNoMove_15 ?_
    exact ⟨_, rfl, rfl, rfl⟩

set_option maxRecDepth 100000 in
set_option maxHeartbeats 4000000 in
theorem m_why2 (g : jG) (w : jW) (M : Ms) (γ : Gm) (R : MR (Mst M) γ) (G : GI γ) {f u : Nat} (hf : f < 22) (hu : u < 22)  : ConI g 5 yX3_whyNoMove cX3_whyNoMove 3 (some (.int)) [.ref (gr g 67), .int (nI f), .int (nI u)] (mw g w M) (fun x w' => x = (bif okG γ f u then 0 else -5) ∧ ∃ sz tp, w' = mw g w (stp (ssz M sz) tp) ∧ LK (stp (ssz M sz) tp) γ) := by
  refine con_of (by decide +kernel) (Nat.le_of_ble_eq_true rfl) [(0, _), (1, _), (2, _)] rfl (fun K h => ?_)
  refine j_iload_n h (q := 1) 1 dX3_whyNoMove_0 rfl rfl ?_
  refine j_cS h (q := 4) mo_X3_isPile mS_X3_isPile mL_X3_133 (m_isPile g _ _) (by decide) rfl rfl (Nat.le_of_ble_eq_true rfl) dX3_whyNoMove_1 rfl ?_
  rintro _ w1 ⟨x1, rfl, e⟩
  obtain ⟨e1, rfl⟩ := e
  obtain rfl : x1 = 1 := e1.trans (b2i_dt (show inn 22 (nI f) from (inn_n (by decide) hf))).symm
  refine j_if_eq h (tgt := 14) (q := 7) dX3_whyNoMove_4 rfl (by decide) (fun c_4 => ?_) (fun c_4 => ?_)
  · exact absurd c_4 (by decide)
  refine j_iload_n h (q := 8) 2 dX3_whyNoMove_7 rfl rfl ?_
  refine j_cS h (q := 11) mo_X3_isPile mS_X3_isPile mL_X3_133 (m_isPile g _ _) (by decide) rfl rfl (Nat.le_of_ble_eq_true rfl) dX3_whyNoMove_8 rfl ?_
  rintro _ w8 ⟨x8, rfl, e⟩
  obtain ⟨e1, rfl⟩ := e
  obtain rfl : x8 = 1 := e1.trans (b2i_dt (show inn 22 (nI u) from (inn_n (by decide) hu))).symm
  refine j_if_ne h (tgt := 16) (q := 14) dX3_whyNoMove_11 rfl (by decide) (fun c_11 => ?_) (fun c_11 => ?_)
  rotate_left
  · exact absurd (show (1 : Int32) = 0 by assumption) (by decide)
  refine j_aload_n h (q := 17) 0 dX3_whyNoMove_16 rfl rfl ?_
  refine j_cV h (q := 20) (C := RX3) (T := TX3) (N := 17) (ci := 3) mo_X3_look mI_X3_look mV_X3_look mL_X3_102 (m_look g w M γ R G) (by decide) (by decide) (mw_0 _ _ _) rfl rfl rfl (Nat.le_of_ble_eq_true rfl) dX3_whyNoMove_17 rfl ?_
  rintro _ w17 ⟨rfl, e⟩
  obtain ⟨sz, tp, rfl, L⟩ := e
  refine j_aload_n h (q := 21) 0 dX3_whyNoMove_20 rfl rfl ?_
  refine j_iload_n h (q := 22) 1 dX3_whyNoMove_21 rfl rfl ?_
  refine j_iload_n h (q := 23) 2 dX3_whyNoMove_22 rfl rfl ?_
  refine j_cV h (q := 26) (C := RX3) (T := TX3) (N := 17) (ci := 3) mo_X3_isMove mI_X3_isMove mV_X3_isMove mL_X3_114 (m_isMove g w (stp (ssz M sz) tp) γ R G L rfl rfl hf hu) (by decide) (by decide) (mw_0 _ _ _) rfl rfl rfl (Nat.le_of_ble_eq_true rfl) dX3_whyNoMove_23 rfl ?_
  rintro _ w23 ⟨x23, rfl, e⟩
  obtain ⟨rfl, rfl⟩ := e
  refine j_if_eq h (tgt := 33) (q := 29) dX3_whyNoMove_26 rfl (by decide) (fun c_26 => ?_) (fun c_26 => ?_)
  · rw [b2i_0] at c_26
    refine j_bipush h (q := 35) (-5) dX3_whyNoMove_33 rfl (by decide) ?_
    refine j_iret h rfl dX3_whyNoMove_35 ?_
    refine ⟨_, rfl, ?_, sz, tp, rfl, L⟩
    rw [c_26]; rfl
  · rw [b2i_1] at c_26
    refine j_iconst h (q := 30) (0) dX3_whyNoMove_29 rfl (by decide) ?_
    refine j_goto h (tgt := 35) dX3_whyNoMove_30 (by decide) ?_
    refine j_iret h rfl dX3_whyNoMove_35 ?_
    refine ⟨_, rfl, ?_, sz, tp, rfl, L⟩
    rw [c_26]; rfl

set_option maxRecDepth 100000 in
set_option maxHeartbeats 4000000 in
theorem M_move (g : jG) (w : jW) (M : Ms) (σ : Sg) (S : SI σ) (R : MX M σ) (a b : Int32)  : ConI g 6 yX3_move cX3_move 4 (some (.int)) [.ref (gr g 67), .int a, .int b] (mw g w M) (fun x w' => x = (spMove σ a b).1 ∧ ∃ M', w' = mw g w M' ∧ MX M' (spMove σ a b).2) := by
  refine con_of (by decide +kernel) (Nat.le_of_ble_eq_true rfl) [(0, _), (1, _), (2, _)] rfl (fun K h => ?_)
  by_cases hab : inn 22 a ∧ inn 22 b
  · obtain ⟨ha, hb⟩ := hab
    obtain ⟨f, hf, rfl, hvf⟩ := inn_of (by decide) ha
    obtain ⟨u, hu, rfl, hvu⟩ := inn_of (by decide) hb
    cases hk : okG (zg σ) f u
    · have hs : spMove σ (nI f) (nI u) = (-5, σ) := by unfold spMove; rw [if_pos ⟨ha, hb⟩, hvf, hvu, hk]; rfl
      refine j_aload_n h (q := 1) 0 dX3_move_0 rfl rfl ?_
      refine j_iload_n h (q := 2) 1 dX3_move_1 rfl rfl ?_
      refine j_iload_n h (q := 3) 2 dX3_move_2 rfl rfl ?_
      refine j_cV h (q := 6) (C := RX3) (T := TX3) (N := 17) (ci := 3) mo_X3_whyNoMove mI_X3_whyNoMove mV_X3_whyNoMove mL_X3_136 (m_why2 g w M (zg σ) R.1 S.1 hf hu) (by decide) (by decide) (mw_0 _ _ _) rfl rfl rfl (Nat.le_of_ble_eq_true rfl) dX3_move_3 rfl ?_
      rintro _ w3 ⟨x3, rfl, e⟩
      obtain ⟨rfl, sz, tp, rfl, L⟩ := e
      rw [hk]
      refine j_istore_n h (q := 7) (loc' := [(3, _), (0, _), (1, _), (2, _)]) dX3_move_6 rfl (by decide) rfl ?_
      refine j_iload_n h (q := 8) 0 dX3_move_7 rfl rfl ?_
      refine j_if_ge h (tgt := 13) (q := 11) dX3_move_8 rfl (by decide) (fun c_8 => ?_) (fun c_8 => ?_)
      · exact absurd c_8 (by decide)
      refine j_iload_n h (q := 12) 0 dX3_move_11 rfl rfl ?_
      refine j_iret h rfl dX3_move_12 ?_
      exact ⟨_, rfl, by rw [hs]; rfl, _, rfl, by rw [hs]; exact MX_eq R ⟨rfl, rfl, rfl, rfl, rfl, rfl, rfl⟩ rfl⟩
    · have hs : spMove σ (nI f) (nI u) = (gainG (zg σ) f u, recG σ (moveG (zg σ) f u)) := by unfold spMove; rw [if_pos ⟨ha, hb⟩, hvf, hvu, hk]; rfl
      refine j_aload_n h (q := 1) 0 dX3_move_0 rfl rfl ?_
      refine j_iload_n h (q := 2) 1 dX3_move_1 rfl rfl ?_
      refine j_iload_n h (q := 3) 2 dX3_move_2 rfl rfl ?_
      refine j_cV h (q := 6) (C := RX3) (T := TX3) (N := 17) (ci := 3) mo_X3_whyNoMove mI_X3_whyNoMove mV_X3_whyNoMove mL_X3_136 (m_why2 g w M (zg σ) R.1 S.1 hf hu) (by decide) (by decide) (mw_0 _ _ _) rfl rfl rfl (Nat.le_of_ble_eq_true rfl) dX3_move_3 rfl ?_
      rintro _ w3 ⟨x3, rfl, e⟩
      obtain ⟨rfl, sz, tp, rfl, L⟩ := e
      rw [hk]
      refine j_istore_n h (q := 7) (loc' := [(3, _), (0, _), (1, _), (2, _)]) dX3_move_6 rfl (by decide) rfl ?_
      refine j_iload_n h (q := 8) 0 dX3_move_7 rfl rfl ?_
      refine j_if_ge h (tgt := 13) (q := 11) dX3_move_8 rfl (by decide) (fun c_8 => ?_) (fun c_8 => ?_)
      rotate_left
      · exact absurd (by decide) c_8
      refine j_aload_n h (q := 14) 1 dX3_move_13 rfl rfl ?_
      refine j_cV h (q := 17) (C := RX3) (T := TX3) (N := 17) (ci := 3) mo_X3_record mI_X3_record mV_X3_record mL_X3_130 (m_record g w (stp (ssz M sz) tp) σ S (MX_eq R ⟨rfl, rfl, rfl, rfl, rfl, rfl, rfl⟩ rfl)) (by decide) (by decide) (mw_0 _ _ _) rfl rfl rfl (Nat.le_of_ble_eq_true rfl) dX3_move_14 rfl ?_
      rintro _ w14 ⟨rfl, e⟩
      obtain ⟨M1, rfl, R1, q1, q2, q3⟩ := e
      refine j_aload_n h (q := 18) 1 dX3_move_17 rfl rfl ?_
      refine j_iload_n h (q := 19) 2 dX3_move_18 rfl rfl ?_
      refine j_iload_n h (q := 20) 3 dX3_move_19 rfl rfl ?_
      refine j_cV h (q := 23) (C := RX3) (T := TX3) (N := 17) (ci := 3) mo_X3_doesMove mI_X3_doesMove mV_X3_doesMove mL_X3_124 (m_doesMove g w M1 (zg σ) R1.1 S.1 (LK_c L q2 q3) rfl rfl hf hu hk) (by decide) (by decide) (mw_0 _ _ _) rfl rfl rfl (Nat.le_of_ble_eq_true rfl) dX3_move_20 rfl ?_
      rintro _ w20 ⟨x20, rfl, e⟩
      obtain ⟨rfl, st2, sz2, tp2, rfl, R2, -⟩ := e
      refine j_iret h rfl dX3_move_23 ?_
      exact ⟨_, rfl, by rw [hs], _, rfl, by rw [hs]; exact MX_go R1 ⟨rfl, rfl, rfl, rfl, rfl, rfl, rfl⟩ R2⟩
  · have hs : spMove σ a b = (-1, σ) := if_neg hab
    refine j_aload_n h (q := 1) 0 dX3_move_0 rfl rfl ?_
    refine j_iload_n h (q := 2) 1 dX3_move_1 rfl rfl ?_
    refine j_iload_n h (q := 3) 2 dX3_move_2 rfl rfl ?_
    refine j_cV h (q := 6) (C := RX3) (T := TX3) (N := 17) (ci := 3) mo_X3_whyNoMove mI_X3_whyNoMove mV_X3_whyNoMove mL_X3_136 (m_why1 g w M a b hab) (by decide) (by decide) (mw_0 _ _ _) rfl rfl rfl (Nat.le_of_ble_eq_true rfl) dX3_move_3 rfl ?_
    rintro _ w3 ⟨x3, rfl, e⟩
    obtain ⟨rfl, rfl⟩ := e
    refine j_istore_n h (q := 7) (loc' := [(3, _), (0, _), (1, _), (2, _)]) dX3_move_6 rfl (by decide) rfl ?_
    refine j_iload_n h (q := 8) 0 dX3_move_7 rfl rfl ?_
    refine j_if_ge h (tgt := 13) (q := 11) dX3_move_8 rfl (by decide) (fun c_8 => ?_) (fun c_8 => ?_)
    · exact absurd c_8 (by decide)
    refine j_iload_n h (q := 12) 0 dX3_move_11 rfl rfl ?_
    refine j_iret h rfl dX3_move_12 ?_
    refine ⟨_, rfl, by rw [hs], M, rfl, by rw [hs]; exact R⟩

set_option maxRecDepth 100000 in
set_option maxHeartbeats 4000000 in
theorem M_draw (g : jG) (w : jW) (M : Ms) (σ : Sg) (S : SI σ) (R : MX M σ)  : ConI g 3 yX3_draw cX3_draw 1 (some (.int)) [.ref (gr g 67)] (mw g w M) (fun x w' => x = (spDraw σ).1 ∧ ∃ M', w' = mw g w M' ∧ MX M' (spDraw σ).2) := by
  refine con_of (by decide +kernel) (Nat.le_of_ble_eq_true rfl) [(0, _)] rfl (fun K h => ?_)
  cases ho : qo (zg σ)
  · have hs : spDraw σ = (ov (drawO (zg σ)), recG σ (drawG (zg σ))) := by unfold spDraw; rw [ho]; rfl
    refine j_aload_n h (q := 1) 0 dX3_draw_0 rfl rfl ?_
    refine j_get h (q := 4) inX3 (C := RX3) (T := TX3) (N := 17) (ci := 3) rfl 0 (by decide) mF_X3_7 (by decide) (mw_0 _ _ _) rfl dX3_draw_1 rfl ?_
    refine j_sipush h (q := 7) (221) dX3_draw_4 rfl (by decide) ?_
    refine j_ldn h (q := 8) (221) (by decide) (mw_st _ _ _) rfl (by decide) (by decide) dX3_draw_7 rfl ?_
    rw [M_ov R.1, ho]
    refine j_iconst h (q := 9) (1) dX3_draw_8 rfl (by decide) ?_
    refine j_icmp_ne h (tgt := 15) (q := 12) dX3_draw_9 rfl (by decide) (fun c_9 => ?_) (fun c_9 => ?_)
    rotate_left
    · exact absurd c_9 (by decide)
    refine j_aload_n h (q := 16) 0 dX3_draw_15 rfl rfl ?_
    refine j_cV h (q := 19) (C := RX3) (T := TX3) (N := 17) (ci := 3) mo_X3_record mI_X3_record mV_X3_record mL_X3_130 (m_record g w M σ S R) (by decide) (by decide) (mw_0 _ _ _) rfl rfl rfl (Nat.le_of_ble_eq_true rfl) dX3_draw_16 rfl ?_
    rintro _ w16 ⟨rfl, e⟩
    obtain ⟨M1, rfl, R1, q1, q2, q3⟩ := e
    refine j_aload_n h (q := 20) 0 dX3_draw_19 rfl rfl ?_
    refine j_cV h (q := 23) (C := RX3) (T := TX3) (N := 17) (ci := 3) mo_X3_draws mI_X3_draws mV_X3_draws mL_X3_127 (m_draws g w M1 (zg σ) R1.1 S.1 ho) (by decide) (by decide) (mw_0 _ _ _) rfl rfl rfl (Nat.le_of_ble_eq_true rfl) dX3_draw_20 rfl ?_
    rintro _ w20 ⟨x20, rfl, e⟩
    obtain ⟨rfl, st2, sz2, tp2, rfl, R2⟩ := e
    refine j_iret h rfl dX3_draw_23 ?_
    exact ⟨_, rfl, by rw [hs], _, rfl, by rw [hs]; exact MX_go R1 ⟨rfl, rfl, rfl, rfl, rfl, rfl, rfl⟩ R2⟩
  · have hs : spDraw σ = (-5, σ) := by unfold spDraw; rw [ho]; rfl
    refine j_aload_n h (q := 1) 0 dX3_draw_0 rfl rfl ?_
    refine j_get h (q := 4) inX3 (C := RX3) (T := TX3) (N := 17) (ci := 3) rfl 0 (by decide) mF_X3_7 (by decide) (mw_0 _ _ _) rfl dX3_draw_1 rfl ?_
    refine j_sipush h (q := 7) (221) dX3_draw_4 rfl (by decide) ?_
    refine j_ldn h (q := 8) (221) (by decide) (mw_st _ _ _) rfl (by decide) (by decide) dX3_draw_7 rfl ?_
    rw [M_ov R.1, ho]
    refine j_iconst h (q := 9) (1) dX3_draw_8 rfl (by decide) ?_
    refine j_icmp_ne h (tgt := 15) (q := 12) dX3_draw_9 rfl (by decide) (fun c_9 => ?_) (fun c_9 => ?_)
    · exact absurd (show b2i true = 1 from rfl) c_9
    refine j_bipush h (q := 14) (-5) dX3_draw_12 rfl (by decide) ?_
    refine j_iret h rfl dX3_draw_14 ?_
    refine ⟨_, rfl, by rw [hs], M, rfl, by rw [hs]; exact R⟩

set_option maxRecDepth 100000 in
set_option maxHeartbeats 4000000 in
theorem m_whyF1 (g : jG) (w : jW) (M : Ms) (a : Int32) (ha : ¬ inn 8 a)  : ConI g 1 yX3_whyNoFreeze cX3_whyNoFreeze 2 (some (.int)) [.ref (gr g 67), .int a] (mw g w M) (fun x w' => x = -1 ∧ w' = mw g w M) := by
  refine con_of (by decide +kernel) (Nat.le_of_ble_eq_true rfl) [(0, _), (1, _)] rfl (fun K h => ?_)
  refine j_iload_n h (q := 1) 1 dX3_whyNoFreeze_0 rfl rfl ?_
  refine j_iconst h (q := 2) (0) dX3_whyNoFreeze_1 rfl (by decide) ?_
  refine j_bipush h (q := 4) (7) dX3_whyNoFreeze_2 rfl (by decide) ?_
  refine j_cS h (q := 7) mo_X3_within mS_X3_within mL_X3_64 (m_within g _ _ _ _) (by decide) rfl rfl (Nat.le_of_ble_eq_true rfl) dX3_whyNoFreeze_4 rfl ?_
  rintro _ w4 ⟨x4, rfl, e⟩
  obtain ⟨e1, rfl⟩ := e
  obtain rfl : x4 = 0 := e1.trans (b2i_df (show ¬ (¬ a < 0 ∧ ¬ 7 < a) from (fun z => ha ((in_k (n := 7) (by decide)).mp z)))).symm
  refine j_if_ne h (tgt := 12) (q := 10) dX3_whyNoFreeze_7 rfl (by decide) (fun c_7 => ?_) (fun c_7 => ?_)
  · exact absurd rfl c_7
  refine j_iconst h (q := 11) (-1) dX3_whyNoFreeze_10 rfl (by decide) ?_
  refine j_iret h rfl dX3_whyNoFreeze_11 ?_
  exact ⟨_, rfl, rfl, rfl⟩

set_option maxRecDepth 100000 in
set_option maxHeartbeats 4000000 in
theorem m_whyF2 (g : jG) (w : jW) (M : Ms) (γ : Gm) (R : MR (Mst M) γ) (G : GI γ) {k : Nat} (hk : k < 8)  : ConI g 1 yX3_whyNoFreeze cX3_whyNoFreeze 2 (some (.int)) [.ref (gr g 67), .int (nI k)] (mw g w M) (fun x w' => x = (bif okF γ k then 0 else -5) ∧ w' = mw g w M) := by
  refine con_of (by decide +kernel) (Nat.le_of_ble_eq_true rfl) [(0, _), (1, _)] rfl (fun K h => ?_)
  refine j_iload_n h (q := 1) 1 dX3_whyNoFreeze_0 rfl rfl ?_
  refine j_iconst h (q := 2) (0) dX3_whyNoFreeze_1 rfl (by decide) ?_
  refine j_bipush h (q := 4) (7) dX3_whyNoFreeze_2 rfl (by decide) ?_
  refine j_cS h (q := 7) mo_X3_within mS_X3_within mL_X3_64 (m_within g _ _ _ _) (by decide) rfl rfl (Nat.le_of_ble_eq_true rfl) dX3_whyNoFreeze_4 rfl ?_
  rintro _ w4 ⟨x4, rfl, e⟩
  obtain ⟨e1, rfl⟩ := e
  obtain rfl : x4 = 1 := e1.trans (b2i_dt (show ¬ (nI k) < 0 ∧ ¬ 7 < (nI k) from ((in_k (n := 7) (by decide)).mpr (inn_n (by decide) hk)))).symm
  refine j_if_ne h (tgt := 12) (q := 10) dX3_whyNoFreeze_7 rfl (by decide) (fun c_7 => ?_) (fun c_7 => ?_)
  rotate_left
  · exact absurd (show (1 : Int32) = 0 by assumption) (by decide)
  refine j_aload_n h (q := 13) 0 dX3_whyNoFreeze_12 rfl rfl ?_
  refine j_get h (q := 16) inX3 (C := RX3) (T := TX3) (N := 17) (ci := 3) rfl 0 (by decide) mF_X3_7 (by decide) (mw_0 _ _ _) rfl dX3_whyNoFreeze_13 rfl ?_
  refine j_sipush h (q := 19) (212) dX3_whyNoFreeze_16 rfl (by decide) ?_
  refine j_iload_n h (q := 20) 1 dX3_whyNoFreeze_19 rfl rfl ?_
  refine j_iadd h (q := 21) dX3_whyNoFreeze_20 rfl ?_
  refine j_ldn h (q := 22) (212 + k) (by decide) (mw_st _ _ _) (by first | rfl | (simp only [nI_add, i_addL, i_Ladd, i_mulL, i_Lmul]; done) | (simp only [nI_add, i_addL, i_Ladd, i_mulL, i_Lmul]; congr 1; omega)) (by omega) (by decide) dX3_whyNoFreeze_21 rfl ?_
  rw [M_fr R hk]
  have hz3 := G.2.2.2.1 k hk
  have hq2 := G.2.2.1 (qt γ) (G_t G)
  have e2 := G_t G
  refine j_if_gt h (tgt := 57) (q := 25) dX3_whyNoFreeze_22 rfl (by decide) (fun c_22 => ?_) (fun c_22 => ?_)
  · rw [i_Llt (by omega) (by decide)] at c_22
    refine j_bipush h (q := 59) (-5) dX3_whyNoFreeze_57 rfl (by decide) ?_
    refine j_goto h (tgt := 63) dX3_whyNoFreeze_59 (by decide) ?_
    refine j_iret h rfl dX3_whyNoFreeze_63 ?_
    refine ⟨_, rfl, ?_, rfl⟩
    unfold okF
    rw [show (qz γ k == 0) = false from beq_eq_false_iff_ne.mpr (by omega)]; simp
  · rw [i_Llt (by omega) (by decide)] at c_22
    refine j_aload_n h (q := 26) 0 dX3_whyNoFreeze_25 rfl rfl ?_
    refine j_get h (q := 29) inX3 (C := RX3) (T := TX3) (N := 17) (ci := 3) rfl 0 (by decide) mF_X3_7 (by decide) (mw_0 _ _ _) rfl dX3_whyNoFreeze_26 rfl ?_
    refine j_sipush h (q := 32) (210) dX3_whyNoFreeze_29 rfl (by decide) ?_
    refine j_aload_n h (q := 33) 0 dX3_whyNoFreeze_32 rfl rfl ?_
    refine j_get h (q := 36) inX3 (C := RX3) (T := TX3) (N := 17) (ci := 3) rfl 0 (by decide) mF_X3_7 (by decide) (mw_0 _ _ _) rfl dX3_whyNoFreeze_33 rfl ?_
    refine j_sipush h (q := 39) (220) dX3_whyNoFreeze_36 rfl (by decide) ?_
    refine j_ldn h (q := 40) (220) (by decide) (mw_st _ _ _) rfl (by decide) (by decide) dX3_whyNoFreeze_39 rfl ?_
    rw [M_sd R]
    refine j_iadd h (q := 41) dX3_whyNoFreeze_40 rfl ?_
    refine j_ldn h (q := 42) (210 + qt γ) (by decide) (mw_st _ _ _) (by first | rfl | (simp only [nI_add, i_addL, i_Ladd, i_mulL, i_Lmul]; done) | (simp only [nI_add, i_addL, i_Ladd, i_mulL, i_Lmul]; congr 1; omega)) (by omega) (by decide) dX3_whyNoFreeze_41 rfl ?_
    rw [(M_pf R e2).2]
    refine j_if_eq h (tgt := 57) (q := 45) dX3_whyNoFreeze_42 rfl (by decide) (fun c_42 => ?_) (fun c_42 => ?_)
    · rw [i_eqL (by omega) (by decide)] at c_42
      refine j_bipush h (q := 59) (-5) dX3_whyNoFreeze_57 rfl (by decide) ?_
      refine j_goto h (tgt := 63) dX3_whyNoFreeze_59 (by decide) ?_
      refine j_iret h rfl dX3_whyNoFreeze_63 ?_
      refine ⟨_, rfl, ?_, rfl⟩
      unfold okF
      rw [decide_eq_false (show ¬ 0 < qf γ (qt γ) by omega)]; simp
    · rw [i_eqL (by omega) (by decide)] at c_42
      refine j_aload_n h (q := 46) 0 dX3_whyNoFreeze_45 rfl rfl ?_
      refine j_get h (q := 49) inX3 (C := RX3) (T := TX3) (N := 17) (ci := 3) rfl 0 (by decide) mF_X3_7 (by decide) (mw_0 _ _ _) rfl dX3_whyNoFreeze_46 rfl ?_
      refine j_sipush h (q := 52) (221) dX3_whyNoFreeze_49 rfl (by decide) ?_
      refine j_ldn h (q := 53) (221) (by decide) (mw_st _ _ _) rfl (by decide) (by decide) dX3_whyNoFreeze_52 rfl ?_
      rw [M_ov R]
      refine j_iconst h (q := 54) (1) dX3_whyNoFreeze_53 rfl (by decide) ?_
      refine j_icmp_ne h (tgt := 62) (q := 57) dX3_whyNoFreeze_54 rfl (by decide) (fun c_54 => ?_) (fun c_54 => ?_)
      · refine j_iconst h (q := 63) (0) dX3_whyNoFreeze_62 rfl (by decide) ?_
        refine j_iret h rfl dX3_whyNoFreeze_63 ?_
        refine ⟨_, rfl, ?_, rfl⟩
        unfold okF
        rw [show (qz γ k == 0) = true from beq_iff_eq.mpr (by omega), decide_eq_true (show 0 < qf γ (qt γ) by omega)]
        rw [ne1_b c_54]; rfl
      · refine j_bipush h (q := 59) (-5) dX3_whyNoFreeze_57 rfl (by decide) ?_
        refine j_goto h (tgt := 63) dX3_whyNoFreeze_59 (by decide) ?_
        refine j_iret h rfl dX3_whyNoFreeze_63 ?_
        refine ⟨_, rfl, ?_, rfl⟩
        unfold okF
        rw [show (qz γ k == 0) = true from beq_iff_eq.mpr (by omega), decide_eq_true (show 0 < qf γ (qt γ) by omega)]
        rw [eq1_b c_54]; rfl

set_option maxRecDepth 100000 in
set_option maxHeartbeats 4000000 in
theorem m_freezes (g : jG) (w : jW) (M : Ms) (γ : Gm) (R : MR (Mst M) γ) (G : GI γ) {k : Nat} (hk : k < 8) (hok : okF γ k = true)  : ConI g 0 yX3_freezes cX3_freezes 2 (some (.int)) [.ref (gr g 67), .int (nI k)] (mw g w M) (fun x w' => x = nI (qf γ (qt γ) - 1) ∧ ∃ st, w' = mw g w (sst M st) ∧ MR st (freezeG γ k)) := by
  refine con_of (by decide +kernel) (Nat.le_of_ble_eq_true rfl) [(0, _), (1, _)] rfl (fun K h => ?_)
  have e2 := G_t G
  have hq2 := G.2.2.1 (qt γ) e2
  have hq0 : 0 < qf γ (qt γ) := by unfold okF at hok; simp only [Bool.and_eq_true, decide_eq_true_eq] at hok; exact hok.2.2
  refine j_aload_n h (q := 1) 0 dX3_freezes_0 rfl rfl ?_
  refine j_get h (q := 4) inX3 (C := RX3) (T := TX3) (N := 17) (ci := 3) rfl 0 (by decide) mF_X3_7 (by decide) (mw_0 _ _ _) rfl dX3_freezes_1 rfl ?_
  refine j_sipush h (q := 7) (212) dX3_freezes_4 rfl (by decide) ?_
  refine j_iload_n h (q := 8) 1 dX3_freezes_7 rfl rfl ?_
  refine j_iadd h (q := 9) dX3_freezes_8 rfl ?_
  refine j_iconst h (q := 10) (3) dX3_freezes_9 rfl (by decide) ?_
  refine j_stn h (q := 11) (212 + k) (by decide) (mw_st _ _ _) (by first | rfl | (simp only [nI_add, i_addL, i_Ladd, i_mulL, i_Lmul]; done) | (simp only [nI_add, i_addL, i_Ladd, i_mulL, i_Lmul]; congr 1; omega)) (by omega) (by decide) dX3_freezes_10 rfl ?_
  refine j_stk rfl mw_ust ?_
  refine j_aload_n h (q := 12) 0 dX3_freezes_11 rfl rfl ?_
  refine j_get h (q := 15) inX3 (C := RX3) (T := TX3) (N := 17) (ci := 3) rfl 0 (by decide) mF_X3_7 (by decide) (mw_0 _ _ _) rfl dX3_freezes_12 rfl ?_
  refine j_sipush h (q := 18) (210) dX3_freezes_15 rfl (by decide) ?_
  refine j_aload_n h (q := 19) 0 dX3_freezes_18 rfl rfl ?_
  refine j_get h (q := 22) inX3 (C := RX3) (T := TX3) (N := 17) (ci := 3) rfl 0 (by decide) mF_X3_7 (by decide) (mw_0 _ _ _) rfl dX3_freezes_19 rfl ?_
  refine j_sipush h (q := 25) (220) dX3_freezes_22 rfl (by decide) ?_
  refine j_ldn h (q := 26) (220) (by decide) (mw_st _ _ _) rfl (by decide) (by decide) dX3_freezes_25 rfl ?_
  rw [show Mst (sst M (upd (Mst M) (212 + k) 3)) 220 = nI (qt γ) by show upd (Mst M) (212 + k) 3 220 = _; rw [pk_un (by omega), M_sd R]]
  refine j_iadd h (q := 27) dX3_freezes_26 rfl ?_
  refine j_dup2 h (q := 28) dX3_freezes_27 rfl rfl rfl ?_
  refine j_ldn h (q := 29) (210 + qt γ) (by decide) (mw_st _ _ _) (by first | rfl | (simp only [nI_add, i_addL, i_Ladd, i_mulL, i_Lmul]; done) | (simp only [nI_add, i_addL, i_Ladd, i_mulL, i_Lmul]; congr 1; omega)) (by omega) (by decide) dX3_freezes_28 rfl ?_
  rw [show Mst (sst M (upd (Mst M) (212 + k) 3)) (210 + qt γ) = nI (qf γ (qt γ)) by show upd (Mst M) (212 + k) 3 (210 + qt γ) = _; rw [pk_un (by omega), (M_pf R e2).2]]
  refine j_iconst h (q := 30) (1) dX3_freezes_29 rfl (by decide) ?_
  refine j_isub h (q := 31) dX3_freezes_30 rfl ?_
  rw [i_subL (by omega)]
  refine j_stn h (q := 32) (210 + qt γ) (by decide) (mw_st _ _ _) (by first | rfl | (simp only [nI_add, i_addL, i_Ladd, i_mulL, i_Lmul]; done) | (simp only [nI_add, i_addL, i_Ladd, i_mulL, i_Lmul]; congr 1; omega)) (by omega) (by decide) dX3_freezes_31 rfl ?_
  refine j_stk rfl mw_ust ?_
  refine j_aload_n h (q := 33) 0 dX3_freezes_32 rfl rfl ?_
  refine j_get h (q := 36) inX3 (C := RX3) (T := TX3) (N := 17) (ci := 3) rfl 0 (by decide) mF_X3_7 (by decide) (mw_0 _ _ _) rfl dX3_freezes_33 rfl ?_
  refine j_sipush h (q := 39) (210) dX3_freezes_36 rfl (by decide) ?_
  refine j_aload_n h (q := 40) 0 dX3_freezes_39 rfl rfl ?_
  refine j_get h (q := 43) inX3 (C := RX3) (T := TX3) (N := 17) (ci := 3) rfl 0 (by decide) mF_X3_7 (by decide) (mw_0 _ _ _) rfl dX3_freezes_40 rfl ?_
  refine j_sipush h (q := 46) (220) dX3_freezes_43 rfl (by decide) ?_
  refine j_ldn h (q := 47) (220) (by decide) (mw_st _ _ _) rfl (by decide) (by decide) dX3_freezes_46 rfl ?_
  rw [show Mst (sst (sst M (upd (Mst M) (212 + k) 3)) (upd (upd (Mst M) (212 + k) 3) (210 + qt γ) (nI (qf γ (qt γ) - 1)))) 220 = nI (qt γ) by show upd (upd (Mst M) (212 + k) 3) (210 + qt γ) (nI (qf γ (qt γ) - 1)) 220 = _; rw [pk_un (by omega), pk_un (by omega), M_sd R]]
  refine j_iadd h (q := 48) dX3_freezes_47 rfl ?_
  refine j_ldn h (q := 49) (210 + qt γ) (by decide) (mw_st _ _ _) (by first | rfl | (simp only [nI_add, i_addL, i_Ladd, i_mulL, i_Lmul]; done) | (simp only [nI_add, i_addL, i_Ladd, i_mulL, i_Lmul]; congr 1; omega)) (by omega) (by decide) dX3_freezes_48 rfl ?_
  refine j_iret h rfl dX3_freezes_49 ?_
  refine ⟨_, rfl, by show upd (upd (Mst M) (212 + k) 3) (210 + qt γ) (nI (qf γ (qt γ) - 1)) (210 + qt γ) = _; rw [pk_us], _, rfl, ?_⟩
  show MR (upd (upd (Mst M) (212 + k) 3) (210 + qt γ) (nI (qf γ (qt γ) - 1))) _
  have up : ∀ j, j ≠ 210 + qt γ → j ≠ 212 + k → upd (upd (Mst M) (212 + k) 3) (210 + qt γ) (nI (qf γ (qt γ) - 1)) j = Mst M j := fun j h1 h2 => by rw [pk_un h1, pk_un h2]
  refine MR_put R G rfl rfl (fun j hj => up _ (by omega) (by omega)) (fun s hs => by rw [up _ (by omega) (by omega)]; exact (M_pf R hs).1) (fun s hs => ?_) (fun j hj => ?_) (by rw [up _ (by omega) (by omega)]; exact M_sd R) (by rw [up _ (by omega) (by omega)]; exact M_ov R) (by rw [up _ (by omega) (by omega)]; exact M_dr R) (by rw [up _ (by omega) (by omega)]; exact M_mv R)
  · by_cases z : s = qt γ
    · rw [z, pk_us, if_pos rfl]
    · rw [up _ (by omega) (by omega), if_neg z]; exact (M_pf R hs).2
  · by_cases z : j = k
    · rw [z, pk_un (by omega), pk_us, if_pos rfl]; rfl
    · rw [up _ (by omega) (by omega), if_neg z]; exact M_fr R hj

set_option maxRecDepth 100000 in
set_option maxHeartbeats 4000000 in
theorem M_freeze (g : jG) (w : jW) (M : Ms) (σ : Sg) (S : SI σ) (R : MX M σ) (a : Int32)  : ConI g 2 yX3_freeze cX3_freeze 3 (some (.int)) [.ref (gr g 67), .int a] (mw g w M) (fun x w' => x = (spFreeze σ a).1 ∧ ∃ M', w' = mw g w M' ∧ MX M' (spFreeze σ a).2) := by
  refine con_of (by decide +kernel) (Nat.le_of_ble_eq_true rfl) [(0, _), (1, _)] rfl (fun K h => ?_)
  by_cases ha : inn 8 a
  · obtain ⟨k, hk8, rfl, hvk⟩ := inn_of (by decide) ha
    cases hk : okF (zg σ) k
    · have hs : spFreeze σ (nI k) = (-5, σ) := by unfold spFreeze; rw [if_pos ha, hvk, hk]; rfl
      refine j_aload_n h (q := 1) 0 dX3_freeze_0 rfl rfl ?_
      refine j_iload_n h (q := 2) 1 dX3_freeze_1 rfl rfl ?_
      refine j_cV h (q := 5) (C := RX3) (T := TX3) (N := 17) (ci := 3) mo_X3_whyNoFreeze mI_X3_whyNoFreeze mV_X3_whyNoFreeze mL_X3_139 (m_whyF2 g w M (zg σ) R.1 S.1 hk8) (by decide) (by decide) (mw_0 _ _ _) rfl rfl rfl (Nat.le_of_ble_eq_true rfl) dX3_freeze_2 rfl ?_
      rintro _ w2 ⟨x2, rfl, e⟩
      obtain ⟨rfl, rfl⟩ := e
      rw [hk]
      refine j_istore_n h (q := 6) (loc' := [(2, _), (0, _), (1, _)]) dX3_freeze_5 rfl (by decide) rfl ?_
      refine j_iload_n h (q := 7) 0 dX3_freeze_6 rfl rfl ?_
      refine j_if_ge h (tgt := 12) (q := 10) dX3_freeze_7 rfl (by decide) (fun c_7 => ?_) (fun c_7 => ?_)
      · exact absurd c_7 (by decide)
      refine j_iload_n h (q := 11) 0 dX3_freeze_10 rfl rfl ?_
      refine j_iret h rfl dX3_freeze_11 ?_
      exact ⟨_, rfl, by rw [hs]; rfl, _, rfl, by rw [hs]; exact R⟩
    · have hs : spFreeze σ (nI k) = (nI (qf (zg σ) (qt (zg σ)) - 1), recG σ (freezeG (zg σ) k)) := by unfold spFreeze; rw [if_pos ha, hvk, hk]; rfl
      refine j_aload_n h (q := 1) 0 dX3_freeze_0 rfl rfl ?_
      refine j_iload_n h (q := 2) 1 dX3_freeze_1 rfl rfl ?_
      refine j_cV h (q := 5) (C := RX3) (T := TX3) (N := 17) (ci := 3) mo_X3_whyNoFreeze mI_X3_whyNoFreeze mV_X3_whyNoFreeze mL_X3_139 (m_whyF2 g w M (zg σ) R.1 S.1 hk8) (by decide) (by decide) (mw_0 _ _ _) rfl rfl rfl (Nat.le_of_ble_eq_true rfl) dX3_freeze_2 rfl ?_
      rintro _ w2 ⟨x2, rfl, e⟩
      obtain ⟨rfl, rfl⟩ := e
      rw [hk]
      refine j_istore_n h (q := 6) (loc' := [(2, _), (0, _), (1, _)]) dX3_freeze_5 rfl (by decide) rfl ?_
      refine j_iload_n h (q := 7) 0 dX3_freeze_6 rfl rfl ?_
      refine j_if_ge h (tgt := 12) (q := 10) dX3_freeze_7 rfl (by decide) (fun c_7 => ?_) (fun c_7 => ?_)
      rotate_left
      · exact absurd (by decide) c_7
      refine j_aload_n h (q := 13) 1 dX3_freeze_12 rfl rfl ?_
      refine j_cV h (q := 16) (C := RX3) (T := TX3) (N := 17) (ci := 3) mo_X3_record mI_X3_record mV_X3_record mL_X3_130 (m_record g w M σ S R) (by decide) (by decide) (mw_0 _ _ _) rfl rfl rfl (Nat.le_of_ble_eq_true rfl) dX3_freeze_13 rfl ?_
      rintro _ w13 ⟨rfl, e⟩
      obtain ⟨M1, rfl, R1, q1, q2, q3⟩ := e
      refine j_aload_n h (q := 17) 1 dX3_freeze_16 rfl rfl ?_
      refine j_iload_n h (q := 18) 2 dX3_freeze_17 rfl rfl ?_
      refine j_cV h (q := 21) (C := RX3) (T := TX3) (N := 17) (ci := 3) mo_X3_freezes mI_X3_freezes mV_X3_freezes mL_X3_142 (m_freezes g w M1 (zg σ) R1.1 S.1 hk8 hk) (by decide) (by decide) (mw_0 _ _ _) rfl rfl rfl (Nat.le_of_ble_eq_true rfl) dX3_freeze_18 rfl ?_
      rintro _ w18 ⟨x18, rfl, e⟩
      obtain ⟨rfl, st2, rfl, R2⟩ := e
      refine j_iret h rfl dX3_freeze_21 ?_
      exact ⟨_, rfl, by rw [hs], _, rfl, by rw [hs]; exact MX_go R1 ⟨rfl, rfl, rfl, rfl, rfl, rfl, rfl⟩ R2⟩
  · have hs : spFreeze σ a = (-1, σ) := if_neg ha
    refine j_aload_n h (q := 1) 0 dX3_freeze_0 rfl rfl ?_
    refine j_iload_n h (q := 2) 1 dX3_freeze_1 rfl rfl ?_
    refine j_cV h (q := 5) (C := RX3) (T := TX3) (N := 17) (ci := 3) mo_X3_whyNoFreeze mI_X3_whyNoFreeze mV_X3_whyNoFreeze mL_X3_139 (m_whyF1 g w M a ha) (by decide) (by decide) (mw_0 _ _ _) rfl rfl rfl (Nat.le_of_ble_eq_true rfl) dX3_freeze_2 rfl ?_
    rintro _ w2 ⟨x2, rfl, e⟩
    obtain ⟨rfl, rfl⟩ := e
    refine j_istore_n h (q := 6) (loc' := [(2, _), (0, _), (1, _)]) dX3_freeze_5 rfl (by decide) rfl ?_
    refine j_iload_n h (q := 7) 0 dX3_freeze_6 rfl rfl ?_
    refine j_if_ge h (tgt := 12) (q := 10) dX3_freeze_7 rfl (by decide) (fun c_7 => ?_) (fun c_7 => ?_)
    · exact absurd c_7 (by decide)
    refine j_iload_n h (q := 11) 0 dX3_freeze_10 rfl rfl ?_
    refine j_iret h rfl dX3_freeze_11 ?_
    refine ⟨_, rfl, by rw [hs], M, rfl, by rw [hs]; exact R⟩

set_option maxRecDepth 100000 in
set_option maxHeartbeats 4000000 in
theorem M_play (g : jG) (w : jW) (M : Ms) (σ : Sg) (S : SI σ) (R : MX M σ) (a : Int32)  : ConI g 7 yX3_play cX3_play 2 (some (.int)) [.ref (gr g 67), .int a] (mw g w M) (fun x w' => x = (spPlay σ a).1 ∧ ∃ M', w' = mw g w M' ∧ MX M' (spPlay σ a).2) := by
  refine con_of (by decide +kernel) (Nat.le_of_ble_eq_true rfl) [(0, _), (1, _)] rfl (fun K h => ?_)
  by_cases ha : ¬ a < 1 ∧ ¬ 60 < a
  · obtain ⟨k, hk, rfl, hvk⟩ := inn_of (n := 61) (by decide) (inn_1 ha.1 ha.2 (by decide))
    have hs : spPlay σ (nI k) = (nI (playN k (zg σ)), recG σ (playG k (zg σ))) := by unfold spPlay; rw [if_pos ha, hvk]
    refine j_iload_n h (q := 1) 1 dX3_play_0 rfl rfl ?_
    refine j_iconst h (q := 2) (1) dX3_play_1 rfl (by decide) ?_
    refine j_bipush h (q := 4) (60) dX3_play_2 rfl (by decide) ?_
    refine j_cS h (q := 7) mo_X3_within mS_X3_within mL_X3_64 (m_within g _ _ _ _) (by decide) rfl rfl (Nat.le_of_ble_eq_true rfl) dX3_play_4 rfl ?_
    rintro _ w4 ⟨x4, rfl, e⟩
    obtain ⟨e1, rfl⟩ := e
    obtain rfl : x4 = 1 := e1.trans (b2i_dt (show ¬ (nI k) < 1 ∧ ¬ 60 < (nI k) from ha)).symm
    refine j_if_ne h (tgt := 13) (q := 10) dX3_play_7 rfl (by decide) (fun c_7 => ?_) (fun c_7 => ?_)
    rotate_left
    · exact absurd (show (1 : Int32) = 0 by assumption) (by decide)
    refine j_aload_n h (q := 14) 0 dX3_play_13 rfl rfl ?_
    refine j_cV h (q := 17) (C := RX3) (T := TX3) (N := 17) (ci := 3) mo_X3_record mI_X3_record mV_X3_record mL_X3_130 (m_record g w M σ S R) (by decide) (by decide) (mw_0 _ _ _) rfl rfl rfl (Nat.le_of_ble_eq_true rfl) dX3_play_14 rfl ?_
    rintro _ w14 ⟨rfl, e⟩
    obtain ⟨M1, rfl, R1, q1, q2, q3⟩ := e
    refine j_aload_n h (q := 18) 0 dX3_play_17 rfl rfl ?_
    refine j_iload_n h (q := 19) 1 dX3_play_18 rfl rfl ?_
    refine j_cV h (q := 22) (C := RX3) (T := TX3) (N := 17) (ci := 3) mo_X3_plays mI_X3_plays mV_X3_plays mL_X3_145 (m_plays g w M1 (zg σ) R1.1 S.1 (steps := k) rfl (by omega)) (by decide) (by decide) (mw_0 _ _ _) rfl rfl rfl (Nat.le_of_ble_eq_true rfl) dX3_play_19 rfl ?_
    rintro _ w19 ⟨x19, rfl, e⟩
    obtain ⟨rfl, M2, rfl, R2, k2⟩ := e
    refine j_iret h rfl dX3_play_22 ?_
    exact ⟨_, rfl, by rw [hs], _, rfl, by rw [hs]; exact MX_go R1 k2 R2⟩
  · have hs : spPlay σ a = (-2, σ) := if_neg ha
    refine j_iload_n h (q := 1) 1 dX3_play_0 rfl rfl ?_
    refine j_iconst h (q := 2) (1) dX3_play_1 rfl (by decide) ?_
    refine j_bipush h (q := 4) (60) dX3_play_2 rfl (by decide) ?_
    refine j_cS h (q := 7) mo_X3_within mS_X3_within mL_X3_64 (m_within g _ _ _ _) (by decide) rfl rfl (Nat.le_of_ble_eq_true rfl) dX3_play_4 rfl ?_
    rintro _ w4 ⟨x4, rfl, e⟩
    obtain ⟨e1, rfl⟩ := e
    obtain rfl : x4 = 0 := e1.trans (b2i_df (show ¬ (¬ a < 1 ∧ ¬ 60 < a) from ha)).symm
    refine j_if_ne h (tgt := 13) (q := 10) dX3_play_7 rfl (by decide) (fun c_7 => ?_) (fun c_7 => ?_)
    · exact absurd rfl c_7
    refine j_bipush h (q := 12) (-2) dX3_play_10 rfl (by decide) ?_
    refine j_iret h rfl dX3_play_12 ?_
    refine ⟨_, rfl, by rw [hs], M, rfl, by rw [hs]; exact R⟩

theorem MX_wipe {M : Ms} {σ : Sg} (R : MX M σ) : MX (spl M 0) (wipeG σ) := ⟨R.1, R.2.1, R.2.2.1, R.2.2.2.1, rfl, fun i hi => absurd hi (Nat.not_lt_zero _)⟩

set_option maxRecDepth 100000 in
set_option maxHeartbeats 4000000 in
theorem M_wipe (g : jG) (w : jW) (M : Ms) (σ : Sg) (S : SI σ) (R : MX M σ)  : ConI g 0 yX3_wipe cX3_wipe 2 (some (.int)) [.ref (gr g 67)] (mw g w M) (fun x w' => x = ((nI (zl σ), wipeG σ)).1 ∧ ∃ M', w' = mw g w M' ∧ MX M' ((nI (zl σ), wipeG σ)).2) := by
  refine con_of (by decide +kernel) (Nat.le_of_ble_eq_true rfl) [(0, _)] rfl (fun K h => ?_)
  refine j_aload_n h (q := 1) 0 dX3_wipe_0 rfl rfl ?_
  refine j_get h (q := 4) inX3 (C := RX3) (T := TX3) (N := 17) (ci := 3) rfl 7 (by decide) mF_X3_163 (by decide) (mw_0 _ _ _) rfl dX3_wipe_1 rfl ?_
  refine j_istore_n h (q := 5) (loc' := [(1, _), (0, _)]) dX3_wipe_4 rfl (by decide) rfl ?_
  refine j_aload_n h (q := 6) 1 dX3_wipe_5 rfl rfl ?_
  refine j_iconst h (q := 7) (0) dX3_wipe_6 rfl (by decide) ?_
  refine j_put h (q := 10) inX3 (C := RX3) (T := TX3) (N := 17) (ci := 3) rfl tyX3_ok nmX3 7 (by decide) mF_X3_163 rfl rfl rfl (by first | rfl | decide) (by decide) (mw_0 _ _ _) (Nat.le_of_ble_eq_true rfl) dX3_wipe_7 rfl ?_
  refine j_stk rfl mw_u0 ?_
  refine j_iload_n h (q := 11) 0 dX3_wipe_10 rfl rfl ?_
  refine j_iret h rfl dX3_wipe_11 ?_
  exact ⟨_, rfl, R.2.2.2.2.1, _, rfl, MX_wipe R⟩

set_option maxRecDepth 100000 in
set_option maxHeartbeats 4000000 in
theorem M_undo (g : jG) (w : jW) (M : Ms) (σ : Sg) (S : SI σ) (R : MX M σ)  : ConI g 1 yX3_undo cX3_undo 1 (some (.int)) [.ref (gr g 67)] (mw g w M) (fun x w' => x = (spUndo σ).1 ∧ ∃ M', w' = mw g w M' ∧ MX M' (spUndo σ).2) := by
  refine con_of (by decide +kernel) (Nat.le_of_ble_eq_true rfl) [(0, _)] rfl (fun K h => ?_)
  have hz6 := S.2.1
  by_cases h0 : zn σ = 0
  · have hs : spUndo σ = (-5, σ) := if_pos h0
    refine j_aload_n h (q := 1) 0 dX3_undo_0 rfl rfl ?_
    refine j_get h (q := 4) inX3 (C := RX3) (T := TX3) (N := 17) (ci := 3) rfl 3 (by decide) mF_X3_41 (by decide) (mw_0 _ _ _) rfl dX3_undo_1 rfl ?_
    refine j_if_ne h (tgt := 10) (q := 7) dX3_undo_4 rfl (by decide) (fun c_4 => ?_) (fun c_4 => ?_)
    · exact absurd (show Mrc M = 0 by rw [R.2.1, h0]; rfl) c_4
    refine j_bipush h (q := 9) (-5) dX3_undo_7 rfl (by decide) ?_
    refine j_iret h rfl dX3_undo_9 ?_
    refine ⟨_, rfl, by rw [hs], M, rfl, by rw [hs]; exact R⟩
  · have hs : spUndo σ = (nI (zn σ - 1), (zh σ 0, zn σ - 1, (fun i => zh σ (i + 1)), zs σ, zl σ, zc σ)) := if_neg h0
    refine j_aload_n h (q := 1) 0 dX3_undo_0 rfl rfl ?_
    refine j_get h (q := 4) inX3 (C := RX3) (T := TX3) (N := 17) (ci := 3) rfl 3 (by decide) mF_X3_41 (by decide) (mw_0 _ _ _) rfl dX3_undo_1 rfl ?_
    refine j_if_ne h (tgt := 10) (q := 7) dX3_undo_4 rfl (by decide) (fun c_4 => ?_) (fun c_4 => ?_)
    rotate_left
    · exact absurd ((i_eqL (by omega) (by decide)).mp (R.2.1.symm.trans c_4)) h0
    refine j_aload_n h (q := 11) 0 dX3_undo_10 rfl rfl ?_
    refine j_dup h (q := 12) dX3_undo_11 rfl rfl ?_
    refine j_get h (q := 15) inX3 (C := RX3) (T := TX3) (N := 17) (ci := 3) rfl 3 (by decide) mF_X3_41 (by decide) (mw_0 _ _ _) rfl dX3_undo_12 rfl ?_
    refine j_iconst h (q := 16) (1) dX3_undo_15 rfl (by decide) ?_
    refine j_isub h (q := 17) dX3_undo_16 rfl ?_
    rw [show Mrc M - 1 = nI (zn σ - 1) by rw [R.2.1, i_subL (by omega)]]
    refine j_put h (q := 20) inX3 (C := RX3) (T := TX3) (N := 17) (ci := 3) rfl tyX3_ok nmX3 3 (by decide) mF_X3_41 rfl rfl rfl (by first | rfl | decide) (by decide) (mw_0 _ _ _) (Nat.le_of_ble_eq_true rfl) dX3_undo_17 rfl ?_
    refine j_stk rfl mw_u0 ?_
    refine j_aload_n h (q := 21) 0 dX3_undo_20 rfl rfl ?_
    refine j_get h (q := 24) inX3 (C := RX3) (T := TX3) (N := 17) (ci := 3) rfl 2 (by decide) mF_X3_16 (by decide) (mw_0 _ _ _) rfl dX3_undo_21 rfl ?_
    refine j_aload_n h (q := 25) 0 dX3_undo_24 rfl rfl ?_
    refine j_get h (q := 28) inX3 (C := RX3) (T := TX3) (N := 17) (ci := 3) rfl 3 (by decide) mF_X3_41 (by decide) (mw_0 _ _ _) rfl dX3_undo_25 rfl ?_
    refine j_sipush h (q := 31) (224) dX3_undo_28 rfl (by decide) ?_
    refine j_imul h (q := 32) dX3_undo_31 rfl ?_
    refine j_aload_n h (q := 33) 0 dX3_undo_32 rfl rfl ?_
    refine j_get h (q := 36) inX3 (C := RX3) (T := TX3) (N := 17) (ci := 3) rfl 0 (by decide) mF_X3_7 (by decide) (mw_0 _ _ _) rfl dX3_undo_33 rfl ?_
    refine j_iconst h (q := 37) (0) dX3_undo_36 rfl (by decide) ?_
    refine j_cS h (q := 40) mo_X3_moves mS_X3_moves mL_X3_45 (m_moves g (mw g w (src M (nI (zn σ - 1)))) (z := 70) (y := 68) (n := 1344) (m := 224) (a := (zn σ - 1) * 224) (b := 0) (f := Mhs M) (u := Mst M) ⟨by decide, by decide, mw_hs _ _ _⟩ ⟨by decide, by decide, mw_st _ _ _⟩ (by decide) (by rw [show Mrc (src M (nI (zn σ - 1))) = nI (zn σ - 1) from rfl, i_mulL]) rfl (by omega) (by decide) (by decide) (by decide)) (by decide) rfl rfl (Nat.le_of_ble_eq_true rfl) dX3_undo_37 rfl ?_
    rintro _ w37 ⟨rfl, e⟩
    subst e
    refine j_stk rfl (show va_up (mw g w (src M (nI (zn σ - 1)))) 68 (.inl (gI g, 224, .inl (mvR (Mhs M) ((zn σ - 1) * 224) (Mst M) 0 224))) = mw g w (sst (src M (nI (zn σ - 1))) (mvR (Mhs M) ((zn σ - 1) * 224) (Mst M) 0 224)) from mw_ust) ?_
    refine j_aload_n h (q := 41) 0 dX3_undo_40 rfl rfl ?_
    refine j_get h (q := 44) inX3 (C := RX3) (T := TX3) (N := 17) (ci := 3) rfl 3 (by decide) mF_X3_41 (by decide) (mw_0 _ _ _) rfl dX3_undo_41 rfl ?_
    refine j_iret h rfl dX3_undo_44 ?_
    refine ⟨_, rfl, by rw [hs], _, rfl, ?_⟩
    rw [hs]
    refine ⟨?_, rfl, fun i hi => ?_, R.2.2.2.1, R.2.2.2.2.1, R.2.2.2.2.2⟩
    · refine MR_cong (R.2.2.1 0 (by omega)) (S.2.2.1 0 (by omega)) (fun j hj => ?_)
      show mvR (Mhs M) ((zn σ - 1) * 224) (Mst M) 0 224 j = Mhs M (224 * (zn σ - 1 - 0) + j)
      have q := mvR_in (Mhs M) ((zn σ - 1) * 224) (Mst M) 0 hj
      rw [Nat.zero_add] at q
      rw [q]; congr 1; omega
    · have hi2 : i < zn σ - 1 := hi
      have q := R.2.2.1 (i + 1) (by omega)
      show MR (fun j => Mhs M (224 * (zn σ - 1 - 1 - i) + j)) (zh σ (i + 1))
      rw [show zn σ - 1 - 1 - i = zn σ - 1 - (i + 1) by omega]
      exact q

set_option maxRecDepth 100000 in
set_option maxHeartbeats 4000000 in
theorem M_save (g : jG) (w : jW) (M : Ms) (σ : Sg) (S : SI σ) (R : MX M σ) (a : Int32)  : ConI g 1 yX3_save cX3_save 2 (some (.int)) [.ref (gr g 67), .int a] (mw g w M) (fun x w' => x = (spSave σ a).1 ∧ ∃ M', w' = mw g w M' ∧ MX M' (spSave σ a).2) := by
  refine con_of (by decide +kernel) (Nat.le_of_ble_eq_true rfl) [(0, _), (1, _)] rfl (fun K h => ?_)
  by_cases ha : inn 2 a
  · obtain ⟨k, hk, rfl, hvk⟩ := inn_of (by decide) ha
    have hs : spSave σ (nI k) = (nI (qd (zg σ)), (zg σ, zn σ, zh σ, (fun i => if i = k then some (zg σ) else zs σ i), zl σ, zc σ)) := by unfold spSave; rw [if_pos ha, hvk]
    refine j_iload_n h (q := 1) 1 dX3_save_0 rfl rfl ?_
    refine j_iconst h (q := 2) (0) dX3_save_1 rfl (by decide) ?_
    refine j_iconst h (q := 3) (1) dX3_save_2 rfl (by decide) ?_
    refine j_cS h (q := 6) mo_X3_within mS_X3_within mL_X3_64 (m_within g _ _ _ _) (by decide) rfl rfl (Nat.le_of_ble_eq_true rfl) dX3_save_3 rfl ?_
    rintro _ w3 ⟨x3, rfl, e⟩
    obtain ⟨e1, rfl⟩ := e
    obtain rfl : x3 = 1 := e1.trans (b2i_dt (show ¬ (nI k) < 0 ∧ ¬ 1 < (nI k) from ((in_k (n := 1) (by decide)).mpr ha))).symm
    refine j_if_ne h (tgt := 12) (q := 9) dX3_save_6 rfl (by decide) (fun c_6 => ?_) (fun c_6 => ?_)
    rotate_left
    · exact absurd (show (1 : Int32) = 0 by assumption) (by decide)
    refine j_aload_n h (q := 13) 0 dX3_save_12 rfl rfl ?_
    refine j_get h (q := 16) inX3 (C := RX3) (T := TX3) (N := 17) (ci := 3) rfl 0 (by decide) mF_X3_7 (by decide) (mw_0 _ _ _) rfl dX3_save_13 rfl ?_
    refine j_iconst h (q := 17) (0) dX3_save_16 rfl (by decide) ?_
    refine j_aload_n h (q := 18) 0 dX3_save_17 rfl rfl ?_
    refine j_get h (q := 21) inX3 (C := RX3) (T := TX3) (N := 17) (ci := 3) rfl 4 (by decide) mF_X3_19 (by decide) (mw_0 _ _ _) rfl dX3_save_18 rfl ?_
    refine j_sipush h (q := 24) (224) dX3_save_21 rfl (by decide) ?_
    refine j_iload_n h (q := 25) 1 dX3_save_24 rfl rfl ?_
    refine j_imul h (q := 26) dX3_save_25 rfl ?_
    refine j_cS h (q := 29) mo_X3_moves mS_X3_moves mL_X3_45 (m_moves g (mw g w M) (z := 68) (y := 71) (n := 224) (m := 448) (a := 0) (b := 224 * k) (f := Mst M) (u := Msl M) ⟨by decide, by decide, mw_st _ _ _⟩ ⟨by decide, by decide, mw_sl _ _ _⟩ (by decide) rfl (i_Lmul _ _) (by decide) (by omega) (by decide) (by decide)) (by decide) rfl rfl (Nat.le_of_ble_eq_true rfl) dX3_save_26 rfl ?_
    rintro _ w26 ⟨rfl, e⟩
    subst e
    refine j_stk rfl (show va_up (mw g w M) 71 (.inl (gI g, 448, .inl (mvR (Mst M) 0 (Msl M) (224 * k) 224))) = mw g w (ssl M (mvR (Mst M) 0 (Msl M) (224 * k) 224)) from mw_usl) ?_
    refine j_aload_n h (q := 30) 0 dX3_save_29 rfl rfl ?_
    refine j_get h (q := 33) inX3 (C := RX3) (T := TX3) (N := 17) (ci := 3) rfl 5 (by decide) mF_X3_22 (by decide) (mw_0 _ _ _) rfl dX3_save_30 rfl ?_
    refine j_iload_n h (q := 34) 1 dX3_save_33 rfl rfl ?_
    refine j_iconst h (q := 35) (1) dX3_save_34 rfl (by decide) ?_
    refine j_stn h (q := 36) (k) (by decide) (mw_sv _ _ _) rfl hk (by decide) dX3_save_35 rfl ?_
    refine j_stk rfl mw_usv ?_
    refine j_aload_n h (q := 37) 0 dX3_save_36 rfl rfl ?_
    refine j_get h (q := 40) inX3 (C := RX3) (T := TX3) (N := 17) (ci := 3) rfl 0 (by decide) mF_X3_7 (by decide) (mw_0 _ _ _) rfl dX3_save_37 rfl ?_
    refine j_sipush h (q := 43) (222) dX3_save_40 rfl (by decide) ?_
    refine j_ldn h (q := 44) (222) (by decide) (mw_st _ _ _) rfl (by decide) (by decide) dX3_save_43 rfl ?_
    refine j_iret h rfl dX3_save_44 ?_
    refine ⟨_, rfl, by rw [hs]; exact M_dr R.1, _, rfl, ?_⟩
    rw [hs]
    refine ⟨R.1, R.2.1, R.2.2.1, fun i hi => ?_, R.2.2.2.2.1, R.2.2.2.2.2⟩
    show ((if i = k then some (zg σ) else zs σ i) = none ∧ upd (Msv M) k 1 i = 0) ∨ ∃ γ, (if i = k then some (zg σ) else zs σ i) = some γ ∧ upd (Msv M) k 1 i = 1 ∧ MR (fun j => mvR (Mst M) 0 (Msl M) (224 * k) 224 (224 * i + j)) γ
    by_cases z : i = k
    · rw [if_pos z, z, pk_us]
      refine Or.inr ⟨zg σ, rfl, rfl, MR_cong R.1 S.1 (fun j hj => ?_)⟩
      show mvR (Mst M) 0 (Msl M) (224 * k) 224 (224 * k + j) = Mst M j
      rw [mvR_in _ _ _ _ hj, Nat.zero_add]
    · rw [if_neg z, pk_un z]
      rcases R.2.2.2.1 i hi with ⟨q1, q2⟩ | ⟨γ, q1, q2, q3⟩
      · exact Or.inl ⟨q1, q2⟩
      · refine Or.inr ⟨γ, q1, q2, MR_cong q3 (S.2.2.2.1 i hi γ q1) (fun j hj => ?_)⟩
        show mvR (Mst M) 0 (Msl M) (224 * k) 224 (224 * i + j) = Msl M (224 * i + j)
        rw [mvR_out _ _ _ _ (by omega)]
  · have hs : spSave σ a = (-2, σ) := if_neg ha
    refine j_iload_n h (q := 1) 1 dX3_save_0 rfl rfl ?_
    refine j_iconst h (q := 2) (0) dX3_save_1 rfl (by decide) ?_
    refine j_iconst h (q := 3) (1) dX3_save_2 rfl (by decide) ?_
    refine j_cS h (q := 6) mo_X3_within mS_X3_within mL_X3_64 (m_within g _ _ _ _) (by decide) rfl rfl (Nat.le_of_ble_eq_true rfl) dX3_save_3 rfl ?_
    rintro _ w3 ⟨x3, rfl, e⟩
    obtain ⟨e1, rfl⟩ := e
    obtain rfl : x3 = 0 := e1.trans (b2i_df (show ¬ (¬ a < 0 ∧ ¬ 1 < a) from (fun z => ha ((in_k (n := 1) (by decide)).mp z)))).symm
    refine j_if_ne h (tgt := 12) (q := 9) dX3_save_6 rfl (by decide) (fun c_6 => ?_) (fun c_6 => ?_)
    · exact absurd rfl c_6
    refine j_bipush h (q := 11) (-2) dX3_save_9 rfl (by decide) ?_
    refine j_iret h rfl dX3_save_11 ?_
    refine ⟨_, rfl, by rw [hs], M, rfl, by rw [hs]; exact R⟩

set_option maxRecDepth 100000 in
set_option maxHeartbeats 4000000 in
theorem M_restore (g : jG) (w : jW) (M : Ms) (σ : Sg) (S : SI σ) (R : MX M σ) (a : Int32)  : ConI g 2 yX3_restore cX3_restore 2 (some (.int)) [.ref (gr g 67), .int a] (mw g w M) (fun x w' => x = (spRestore σ a).1 ∧ ∃ M', w' = mw g w M' ∧ MX M' (spRestore σ a).2) := by
  refine con_of (by decide +kernel) (Nat.le_of_ble_eq_true rfl) [(0, _), (1, _)] rfl (fun K h => ?_)
  by_cases ha : inn 2 a
  · obtain ⟨k, hk, rfl, hvk⟩ := inn_of (by decide) ha
    rcases R.2.2.2.1 k hk with ⟨q1, q2⟩ | ⟨γ, q1, q2, q3⟩
    · have hs : spRestore σ (nI k) = (-5, σ) := by unfold spRestore; rw [if_pos ha, hvk, q1]
      refine j_iload_n h (q := 1) 1 dX3_restore_0 rfl rfl ?_
      refine j_iconst h (q := 2) (0) dX3_restore_1 rfl (by decide) ?_
      refine j_iconst h (q := 3) (1) dX3_restore_2 rfl (by decide) ?_
      refine j_cS h (q := 6) mo_X3_within mS_X3_within mL_X3_64 (m_within g _ _ _ _) (by decide) rfl rfl (Nat.le_of_ble_eq_true rfl) dX3_restore_3 rfl ?_
      rintro _ w3 ⟨x3, rfl, e⟩
      obtain ⟨e1, rfl⟩ := e
      obtain rfl : x3 = 1 := e1.trans (b2i_dt (show ¬ (nI k) < 0 ∧ ¬ 1 < (nI k) from ((in_k (n := 1) (by decide)).mpr ha))).symm
      refine j_if_ne h (tgt := 12) (q := 9) dX3_restore_6 rfl (by decide) (fun c_6 => ?_) (fun c_6 => ?_)
      rotate_left
      · exact absurd (show (1 : Int32) = 0 by assumption) (by decide)
      refine j_aload_n h (q := 13) 0 dX3_restore_12 rfl rfl ?_
      refine j_get h (q := 16) inX3 (C := RX3) (T := TX3) (N := 17) (ci := 3) rfl 5 (by decide) mF_X3_22 (by decide) (mw_0 _ _ _) rfl dX3_restore_13 rfl ?_
      refine j_iload_n h (q := 17) 1 dX3_restore_16 rfl rfl ?_
      refine j_ldn h (q := 18) (k) (by decide) (mw_sv _ _ _) rfl hk (by decide) dX3_restore_17 rfl ?_
      rw [show Msv M k = 0 from q2]
      refine j_if_ne h (tgt := 24) (q := 21) dX3_restore_18 rfl (by decide) (fun c_18 => ?_) (fun c_18 => ?_)
      · exact absurd rfl c_18
      refine j_bipush h (q := 23) (-5) dX3_restore_21 rfl (by decide) ?_
      refine j_iret h rfl dX3_restore_23 ?_
      refine ⟨_, rfl, by rw [hs], M, rfl, by rw [hs]; exact R⟩
    · have hs : spRestore σ (nI k) = (nI (qd γ), recG σ γ) := by unfold spRestore; rw [if_pos ha, hvk, q1]
      have Gγ := S.2.2.2.1 k hk γ q1
      refine j_iload_n h (q := 1) 1 dX3_restore_0 rfl rfl ?_
      refine j_iconst h (q := 2) (0) dX3_restore_1 rfl (by decide) ?_
      refine j_iconst h (q := 3) (1) dX3_restore_2 rfl (by decide) ?_
      refine j_cS h (q := 6) mo_X3_within mS_X3_within mL_X3_64 (m_within g _ _ _ _) (by decide) rfl rfl (Nat.le_of_ble_eq_true rfl) dX3_restore_3 rfl ?_
      rintro _ w3 ⟨x3, rfl, e⟩
      obtain ⟨e1, rfl⟩ := e
      obtain rfl : x3 = 1 := e1.trans (b2i_dt (show ¬ (nI k) < 0 ∧ ¬ 1 < (nI k) from ((in_k (n := 1) (by decide)).mpr ha))).symm
      refine j_if_ne h (tgt := 12) (q := 9) dX3_restore_6 rfl (by decide) (fun c_6 => ?_) (fun c_6 => ?_)
      rotate_left
      · exact absurd (show (1 : Int32) = 0 by assumption) (by decide)
      refine j_aload_n h (q := 13) 0 dX3_restore_12 rfl rfl ?_
      refine j_get h (q := 16) inX3 (C := RX3) (T := TX3) (N := 17) (ci := 3) rfl 5 (by decide) mF_X3_22 (by decide) (mw_0 _ _ _) rfl dX3_restore_13 rfl ?_
      refine j_iload_n h (q := 17) 1 dX3_restore_16 rfl rfl ?_
      refine j_ldn h (q := 18) (k) (by decide) (mw_sv _ _ _) rfl hk (by decide) dX3_restore_17 rfl ?_
      rw [show Msv M k = 1 from q2]
      refine j_if_ne h (tgt := 24) (q := 21) dX3_restore_18 rfl (by decide) (fun c_18 => ?_) (fun c_18 => ?_)
      rotate_left
      · exact absurd (show (1 : Int32) = 0 by assumption) (by decide)
      refine j_aload_n h (q := 25) 0 dX3_restore_24 rfl rfl ?_
      refine j_cV h (q := 28) (C := RX3) (T := TX3) (N := 17) (ci := 3) mo_X3_record mI_X3_record mV_X3_record mL_X3_130 (m_record g w M σ S R) (by decide) (by decide) (mw_0 _ _ _) rfl rfl rfl (Nat.le_of_ble_eq_true rfl) dX3_restore_25 rfl ?_
      rintro _ w25 ⟨rfl, e⟩
      obtain ⟨M1, rfl, R1, p1, p2, p3⟩ := e
      refine j_aload_n h (q := 29) 0 dX3_restore_28 rfl rfl ?_
      refine j_get h (q := 32) inX3 (C := RX3) (T := TX3) (N := 17) (ci := 3) rfl 4 (by decide) mF_X3_19 (by decide) (mw_0 _ _ _) rfl dX3_restore_29 rfl ?_
      refine j_sipush h (q := 35) (224) dX3_restore_32 rfl (by decide) ?_
      refine j_iload_n h (q := 36) 1 dX3_restore_35 rfl rfl ?_
      refine j_imul h (q := 37) dX3_restore_36 rfl ?_
      refine j_aload_n h (q := 38) 0 dX3_restore_37 rfl rfl ?_
      refine j_get h (q := 41) inX3 (C := RX3) (T := TX3) (N := 17) (ci := 3) rfl 0 (by decide) mF_X3_7 (by decide) (mw_0 _ _ _) rfl dX3_restore_38 rfl ?_
      refine j_iconst h (q := 42) (0) dX3_restore_41 rfl (by decide) ?_
      refine j_cS h (q := 45) mo_X3_moves mS_X3_moves mL_X3_45 (m_moves g (mw g w M1) (z := 71) (y := 68) (n := 448) (m := 224) (a := 224 * k) (b := 0) (f := Msl M1) (u := Mst M1) ⟨by decide, by decide, mw_sl _ _ _⟩ ⟨by decide, by decide, mw_st _ _ _⟩ (by decide) (i_Lmul _ _) rfl (by omega) (by decide) (by decide) (by decide)) (by decide) rfl rfl (Nat.le_of_ble_eq_true rfl) dX3_restore_42 rfl ?_
      rintro _ w42 ⟨rfl, e⟩
      subst e
      refine j_stk rfl (show va_up (mw g w M1) 68 (.inl (gI g, 224, .inl (mvR (Msl M1) (224 * k) (Mst M1) 0 224))) = mw g w (sst M1 (mvR (Msl M1) (224 * k) (Mst M1) 0 224)) from mw_ust) ?_
      have R2 : MR (mvR (Msl M1) (224 * k) (Mst M1) 0 224) γ := by
        rcases R1.2.2.2.1 k hk with ⟨q5, -⟩ | ⟨γ2, q5, -, q6⟩
        · have q5 : zs σ k = none := q5
          rw [q1] at q5; cases q5
        · have q5 : zs σ k = some γ2 := q5
          rw [q1] at q5; cases q5
          refine MR_cong q6 Gγ (fun j hj => ?_)
          have q := mvR_in (Msl M1) (224 * k) (Mst M1) 0 hj
          rw [Nat.zero_add] at q
          exact q
      refine j_aload_n h (q := 46) 0 dX3_restore_45 rfl rfl ?_
      refine j_get h (q := 49) inX3 (C := RX3) (T := TX3) (N := 17) (ci := 3) rfl 0 (by decide) mF_X3_7 (by decide) (mw_0 _ _ _) rfl dX3_restore_46 rfl ?_
      refine j_sipush h (q := 52) (222) dX3_restore_49 rfl (by decide) ?_
      refine j_ldn h (q := 53) (222) (by decide) (mw_st _ _ _) rfl (by decide) (by decide) dX3_restore_52 rfl ?_
      refine j_iret h rfl dX3_restore_53 ?_
      exact ⟨_, rfl, by rw [hs]; exact M_dr R2, _, rfl, by rw [hs]; exact MX_go R1 ⟨rfl, rfl, rfl, rfl, rfl, rfl, rfl⟩ R2⟩
  · have hs : spRestore σ a = (-2, σ) := if_neg ha
    refine j_iload_n h (q := 1) 1 dX3_restore_0 rfl rfl ?_
    refine j_iconst h (q := 2) (0) dX3_restore_1 rfl (by decide) ?_
    refine j_iconst h (q := 3) (1) dX3_restore_2 rfl (by decide) ?_
    refine j_cS h (q := 6) mo_X3_within mS_X3_within mL_X3_64 (m_within g _ _ _ _) (by decide) rfl rfl (Nat.le_of_ble_eq_true rfl) dX3_restore_3 rfl ?_
    rintro _ w3 ⟨x3, rfl, e⟩
    obtain ⟨e1, rfl⟩ := e
    obtain rfl : x3 = 0 := e1.trans (b2i_df (show ¬ (¬ a < 0 ∧ ¬ 1 < a) from (fun z => ha ((in_k (n := 1) (by decide)).mp z)))).symm
    refine j_if_ne h (tgt := 12) (q := 9) dX3_restore_6 rfl (by decide) (fun c_6 => ?_) (fun c_6 => ?_)
    · exact absurd rfl c_6
    refine j_bipush h (q := 11) (-2) dX3_restore_9 rfl (by decide) ?_
    refine j_iret h rfl dX3_restore_11 ?_
    refine ⟨_, rfl, by rw [hs], M, rfl, by rw [hs]; exact R⟩
