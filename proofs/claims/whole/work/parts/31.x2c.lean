def psQ (g : jG) (w : jW) (X : Xs) (o : Option Gm) (x : Int32) (w' : jW) : Prop := match o with
  | none => x = -5 ∧ w' = xw g w X
  | some γ' => ¬ x = -5 ∧ ∃ T', w' = xw g w (yTab X 0 T') ∧ TR T' γ'

set_option maxRecDepth 100000 in
set_option maxHeartbeats 4000000 in
theorem c_playStep (g : jG) (w : jW) (X : Xs) {L : Nat} {ch : Nat → Nat} (P : PD X L ch) (γ : Gm) (R : TR (Xnow X) γ) (G : GI γ) {i : Nat} (hi : i < 800) (hr : (rsG L ch i).1 = true)  : ConI g 5 yX2_playStep cX2_playStep 5 (some (.int)) [.ref (gr g 0), .int (nI i)] (xw g w X) (fun x w' => psQ g w X (stepG L ch γ i) x w') := by
  refine con_of (by decide +kernel) (Nat.le_of_ble_eq_true rfl) [(0, _), (1, _)] rfl (fun K h => ?_)
  by_cases hk : tx L ch i = 100
  · cases ho : qo γ
    · have hst : stepG L ch γ i = some (drawG γ) := by unfold stepG; rw [if_pos hk, ho]; rfl
      refine j_aload_n h (q := 1) 0 dX2_playStep_0 rfl rfl ?_
      refine j_get h (q := 4) inX2 (C := RX2) (T := TX2) (N := 9) (ci := 2) rfl 5 (by decide) mF_X2_33 (by decide) (xw_0 _ _ _) rfl dX2_playStep_1 rfl ?_
      refine j_iload_n h (q := 5) 1 dX2_playStep_4 rfl rfl ?_
      refine j_cV h (q := 8) (C := RX0) (T := TX0) (N := 2) (ci := 0) mo_X0_signAt mI_X0_signAt mV_X0_signAt mL_X2_216 (p_signAt g _ _ P (i := i) rfl (by omega)) (by decide) (by decide) (xw_5 _ _ _) rfl rfl rfl (Nat.le_of_ble_eq_true rfl) dX2_playStep_5 rfl ?_
      rintro _ w5 ⟨x5, rfl, e⟩
      obtain ⟨rfl, rfl⟩ := e
      have hb0 := tx_b P i
      have hb1 := tx_b P (i + 1)
      refine j_istore_n h (q := 9) (loc' := [(2, _), (0, _), (1, _)]) dX2_playStep_8 rfl (by decide) rfl ?_
      refine j_iload_n h (q := 10) 0 dX2_playStep_9 rfl rfl ?_
      refine j_bipush h (q := 12) (100) dX2_playStep_10 rfl (by decide) ?_
      refine j_icmp_ne h (tgt := 38) (q := 15) dX2_playStep_12 rfl (by decide) (fun c_12 => ?_) (fun c_12 => ?_)
      · rw [i_eqL (by omega) (by decide)] at c_12; exact absurd hk c_12
      refine j_aload_n h (q := 16) 1 dX2_playStep_15 rfl rfl ?_
      refine j_get h (q := 19) inX2 (C := RX2) (T := TX2) (N := 9) (ci := 2) rfl 0 (by decide) mF_X2_10 (by decide) (xw_0 _ _ _) rfl dX2_playStep_16 rfl ?_
      refine j_get h (q := 22) inX1 (C := RX1) (T := TX1) (N := 9) (ci := 1) rfl 8 (by decide) mF_X2_71 (by decide) (xw_r g _ _ (i := 0) (by decide)) rfl dX2_playStep_19 rfl ?_
      rw [show Tov (xtab X (7 + 6 * 0)) = b2i (qo γ) from R_ov R, ho]
      refine j_if_eq h (tgt := 30) (q := 25) dX2_playStep_22 rfl (by decide) (fun c_22 => ?_) (fun c_22 => ?_)
      rotate_left
      · exact absurd (show b2i false = 0 from rfl) c_22
      refine j_aload_n h (q := 31) 1 dX2_playStep_30 rfl rfl ?_
      refine j_get h (q := 34) inX2 (C := RX2) (T := TX2) (N := 9) (ci := 2) rfl 0 (by decide) mF_X2_10 (by decide) (xw_0 _ _ _) rfl dX2_playStep_31 rfl ?_
      refine j_cV h (q := 37) (C := RX1) (T := TX1) (N := 9) (ci := 1) mo_X1_drawCard mI_X1_drawCard mV_X1_drawCard mL_X2_75 (xw_con (i := 0) (by decide) (c_drawCard g _ _ (by decide) (xtab X (7 + 6 * 0)) γ R G ho)) (by decide) (by decide) (xw_r g _ _ (i := 0) (by decide)) rfl rfl rfl (Nat.le_of_ble_eq_true rfl) dX2_playStep_34 rfl ?_
      rintro _ w34 ⟨x34, rfl, e⟩
      obtain ⟨rfl, T2, rfl, R2⟩ := e
      rw [xw_ut g w _ (show 0 < 10 by decide)]
      refine j_iret h rfl dX2_playStep_37 ?_
      rw [hst]
      exact ⟨_, rfl, ov_ne5 (G_o (GI_turn G) (by have := G_t G; omega)), T2, rfl, R2⟩
    · have hst : stepG L ch γ i = none := by unfold stepG; rw [if_pos hk, ho]; rfl
      refine j_aload_n h (q := 1) 0 dX2_playStep_0 rfl rfl ?_
      refine j_get h (q := 4) inX2 (C := RX2) (T := TX2) (N := 9) (ci := 2) rfl 5 (by decide) mF_X2_33 (by decide) (xw_0 _ _ _) rfl dX2_playStep_1 rfl ?_
      refine j_iload_n h (q := 5) 1 dX2_playStep_4 rfl rfl ?_
      refine j_cV h (q := 8) (C := RX0) (T := TX0) (N := 2) (ci := 0) mo_X0_signAt mI_X0_signAt mV_X0_signAt mL_X2_216 (p_signAt g _ _ P (i := i) rfl (by omega)) (by decide) (by decide) (xw_5 _ _ _) rfl rfl rfl (Nat.le_of_ble_eq_true rfl) dX2_playStep_5 rfl ?_
      rintro _ w5 ⟨x5, rfl, e⟩
      obtain ⟨rfl, rfl⟩ := e
      have hb0 := tx_b P i
      have hb1 := tx_b P (i + 1)
      refine j_istore_n h (q := 9) (loc' := [(2, _), (0, _), (1, _)]) dX2_playStep_8 rfl (by decide) rfl ?_
      refine j_iload_n h (q := 10) 0 dX2_playStep_9 rfl rfl ?_
      refine j_bipush h (q := 12) (100) dX2_playStep_10 rfl (by decide) ?_
      refine j_icmp_ne h (tgt := 38) (q := 15) dX2_playStep_12 rfl (by decide) (fun c_12 => ?_) (fun c_12 => ?_)
      · rw [i_eqL (by omega) (by decide)] at c_12; exact absurd hk c_12
      refine j_aload_n h (q := 16) 1 dX2_playStep_15 rfl rfl ?_
      refine j_get h (q := 19) inX2 (C := RX2) (T := TX2) (N := 9) (ci := 2) rfl 0 (by decide) mF_X2_10 (by decide) (xw_0 _ _ _) rfl dX2_playStep_16 rfl ?_
      refine j_get h (q := 22) inX1 (C := RX1) (T := TX1) (N := 9) (ci := 1) rfl 8 (by decide) mF_X2_71 (by decide) (xw_r g _ _ (i := 0) (by decide)) rfl dX2_playStep_19 rfl ?_
      rw [show Tov (xtab X (7 + 6 * 0)) = b2i (qo γ) from R_ov R, ho]
      refine j_if_eq h (tgt := 30) (q := 25) dX2_playStep_22 rfl (by decide) (fun c_22 => ?_) (fun c_22 => ?_)
      · exact absurd (show b2i true = 0 from c_22) (by decide)
      refine j_bipush h (q := 27) (-5) dX2_playStep_25 rfl (by decide) ?_
      refine j_goto h (tgt := 37) dX2_playStep_27 (by decide) ?_
      refine j_iret h rfl dX2_playStep_37 ?_
      rw [hst]
      exact ⟨_, rfl, rfl, rfl⟩
  · have hk0 := hk
    by_cases hk : tx L ch i = 102
    · have hf := rs_f hr hk0 hk
      cases ho : okF γ (tx L ch (i + 1) - 48)
      · have hst : stepG L ch γ i = none := by unfold stepG; rw [if_neg hk0, if_pos hk, ho]; rfl
        refine j_aload_n h (q := 1) 0 dX2_playStep_0 rfl rfl ?_
        refine j_get h (q := 4) inX2 (C := RX2) (T := TX2) (N := 9) (ci := 2) rfl 5 (by decide) mF_X2_33 (by decide) (xw_0 _ _ _) rfl dX2_playStep_1 rfl ?_
        refine j_iload_n h (q := 5) 1 dX2_playStep_4 rfl rfl ?_
        refine j_cV h (q := 8) (C := RX0) (T := TX0) (N := 2) (ci := 0) mo_X0_signAt mI_X0_signAt mV_X0_signAt mL_X2_216 (p_signAt g _ _ P (i := i) rfl (by omega)) (by decide) (by decide) (xw_5 _ _ _) rfl rfl rfl (Nat.le_of_ble_eq_true rfl) dX2_playStep_5 rfl ?_
        rintro _ w5 ⟨x5, rfl, e⟩
        obtain ⟨rfl, rfl⟩ := e
        have hb0 := tx_b P i
        have hb1 := tx_b P (i + 1)
        refine j_istore_n h (q := 9) (loc' := [(2, _), (0, _), (1, _)]) dX2_playStep_8 rfl (by decide) rfl ?_
        refine j_iload_n h (q := 10) 0 dX2_playStep_9 rfl rfl ?_
        refine j_bipush h (q := 12) (100) dX2_playStep_10 rfl (by decide) ?_
        refine j_icmp_ne h (tgt := 38) (q := 15) dX2_playStep_12 rfl (by decide) (fun c_12 => ?_) (fun c_12 => ?_)
        rotate_left
        · rw [i_eqL (by omega) (by decide)] at c_12; exact absurd c_12 hk0
        refine j_iload_n h (q := 39) 0 dX2_playStep_38 rfl rfl ?_
        refine j_bipush h (q := 41) (102) dX2_playStep_39 rfl (by decide) ?_
        refine j_icmp_ne h (tgt := 83) (q := 44) dX2_playStep_41 rfl (by decide) (fun c_41 => ?_) (fun c_41 => ?_)
        · rw [i_eqL (by omega) (by decide)] at c_41; exact absurd hk c_41
        refine j_aload_n h (q := 45) 1 dX2_playStep_44 rfl rfl ?_
        refine j_get h (q := 48) inX2 (C := RX2) (T := TX2) (N := 9) (ci := 2) rfl 5 (by decide) mF_X2_33 (by decide) (xw_0 _ _ _) rfl dX2_playStep_45 rfl ?_
        refine j_iload_n h (q := 49) 2 dX2_playStep_48 rfl rfl ?_
        refine j_iconst h (q := 50) (1) dX2_playStep_49 rfl (by decide) ?_
        refine j_iadd h (q := 51) dX2_playStep_50 rfl ?_
        refine j_cV h (q := 54) (C := RX0) (T := TX0) (N := 2) (ci := 0) mo_X0_signAt mI_X0_signAt mV_X0_signAt mL_X2_216 (p_signAt g _ _ P (i := i + 1) (i_addL i 1) (by omega)) (by decide) (by decide) (xw_5 _ _ _) rfl rfl rfl (Nat.le_of_ble_eq_true rfl) dX2_playStep_51 rfl ?_
        rintro _ w51 ⟨x51, rfl, e⟩
        obtain ⟨rfl, rfl⟩ := e
        refine j_bipush h (q := 56) (48) dX2_playStep_54 rfl (by decide) ?_
        refine j_isub h (q := 57) dX2_playStep_56 rfl ?_
        rw [i_subL (by omega)]
        refine j_istore_n h (q := 58) (loc' := [(3, _), (2, _), (0, _), (1, _)]) dX2_playStep_57 rfl (by decide) rfl ?_
        refine j_aload_n h (q := 59) 2 dX2_playStep_58 rfl rfl ?_
        refine j_get h (q := 62) inX2 (C := RX2) (T := TX2) (N := 9) (ci := 2) rfl 0 (by decide) mF_X2_10 (by decide) (xw_0 _ _ _) rfl dX2_playStep_59 rfl ?_
        refine j_iload_n h (q := 63) 0 dX2_playStep_62 rfl rfl ?_
        refine j_cV h (q := 66) (C := RX1) (T := TX1) (N := 9) (ci := 1) mo_X1_allowsFreeze mI_X1_allowsFreeze mV_X1_allowsFreeze mL_X2_82 (xw_con (i := 0) (by decide) (c_allowsFreeze g _ _ (by decide) (xtab X (7 + 6 * 0)) γ R G (k := tx L ch (i + 1) - 48) rfl (by omega))) (by decide) (by decide) (xw_r g _ _ (i := 0) (by decide)) rfl rfl rfl (Nat.le_of_ble_eq_true rfl) dX2_playStep_63 rfl ?_
        rintro _ w63 ⟨x63, rfl, e⟩
        obtain ⟨rfl, rfl⟩ := e
        rw [xw_tab g w _ (show 0 < 10 by decide)]
        rw [ho]
        refine j_if_eq h (tgt := 80) (q := 69) dX2_playStep_66 rfl (by decide) (fun c_66 => ?_) (fun c_66 => ?_)
        rotate_left
        · exact absurd (show b2i false = 0 from rfl) c_66
        refine j_bipush h (q := 82) (-5) dX2_playStep_80 rfl (by decide) ?_
        refine j_iret h rfl dX2_playStep_82 ?_
        rw [hst]
        exact ⟨_, rfl, rfl, rfl⟩
      · have hst : stepG L ch γ i = some (freezeG γ (tx L ch (i + 1) - 48)) := by unfold stepG; rw [if_neg hk0, if_pos hk, ho]; rfl
        refine j_aload_n h (q := 1) 0 dX2_playStep_0 rfl rfl ?_
        refine j_get h (q := 4) inX2 (C := RX2) (T := TX2) (N := 9) (ci := 2) rfl 5 (by decide) mF_X2_33 (by decide) (xw_0 _ _ _) rfl dX2_playStep_1 rfl ?_
        refine j_iload_n h (q := 5) 1 dX2_playStep_4 rfl rfl ?_
        refine j_cV h (q := 8) (C := RX0) (T := TX0) (N := 2) (ci := 0) mo_X0_signAt mI_X0_signAt mV_X0_signAt mL_X2_216 (p_signAt g _ _ P (i := i) rfl (by omega)) (by decide) (by decide) (xw_5 _ _ _) rfl rfl rfl (Nat.le_of_ble_eq_true rfl) dX2_playStep_5 rfl ?_
        rintro _ w5 ⟨x5, rfl, e⟩
        obtain ⟨rfl, rfl⟩ := e
        have hb0 := tx_b P i
        have hb1 := tx_b P (i + 1)
        refine j_istore_n h (q := 9) (loc' := [(2, _), (0, _), (1, _)]) dX2_playStep_8 rfl (by decide) rfl ?_
        refine j_iload_n h (q := 10) 0 dX2_playStep_9 rfl rfl ?_
        refine j_bipush h (q := 12) (100) dX2_playStep_10 rfl (by decide) ?_
        refine j_icmp_ne h (tgt := 38) (q := 15) dX2_playStep_12 rfl (by decide) (fun c_12 => ?_) (fun c_12 => ?_)
        rotate_left
        · rw [i_eqL (by omega) (by decide)] at c_12; exact absurd c_12 hk0
        refine j_iload_n h (q := 39) 0 dX2_playStep_38 rfl rfl ?_
        refine j_bipush h (q := 41) (102) dX2_playStep_39 rfl (by decide) ?_
        refine j_icmp_ne h (tgt := 83) (q := 44) dX2_playStep_41 rfl (by decide) (fun c_41 => ?_) (fun c_41 => ?_)
        · rw [i_eqL (by omega) (by decide)] at c_41; exact absurd hk c_41
        refine j_aload_n h (q := 45) 1 dX2_playStep_44 rfl rfl ?_
        refine j_get h (q := 48) inX2 (C := RX2) (T := TX2) (N := 9) (ci := 2) rfl 5 (by decide) mF_X2_33 (by decide) (xw_0 _ _ _) rfl dX2_playStep_45 rfl ?_
        refine j_iload_n h (q := 49) 2 dX2_playStep_48 rfl rfl ?_
        refine j_iconst h (q := 50) (1) dX2_playStep_49 rfl (by decide) ?_
        refine j_iadd h (q := 51) dX2_playStep_50 rfl ?_
        refine j_cV h (q := 54) (C := RX0) (T := TX0) (N := 2) (ci := 0) mo_X0_signAt mI_X0_signAt mV_X0_signAt mL_X2_216 (p_signAt g _ _ P (i := i + 1) (i_addL i 1) (by omega)) (by decide) (by decide) (xw_5 _ _ _) rfl rfl rfl (Nat.le_of_ble_eq_true rfl) dX2_playStep_51 rfl ?_
        rintro _ w51 ⟨x51, rfl, e⟩
        obtain ⟨rfl, rfl⟩ := e
        refine j_bipush h (q := 56) (48) dX2_playStep_54 rfl (by decide) ?_
        refine j_isub h (q := 57) dX2_playStep_56 rfl ?_
        rw [i_subL (by omega)]
        refine j_istore_n h (q := 58) (loc' := [(3, _), (2, _), (0, _), (1, _)]) dX2_playStep_57 rfl (by decide) rfl ?_
        refine j_aload_n h (q := 59) 2 dX2_playStep_58 rfl rfl ?_
        refine j_get h (q := 62) inX2 (C := RX2) (T := TX2) (N := 9) (ci := 2) rfl 0 (by decide) mF_X2_10 (by decide) (xw_0 _ _ _) rfl dX2_playStep_59 rfl ?_
        refine j_iload_n h (q := 63) 0 dX2_playStep_62 rfl rfl ?_
        refine j_cV h (q := 66) (C := RX1) (T := TX1) (N := 9) (ci := 1) mo_X1_allowsFreeze mI_X1_allowsFreeze mV_X1_allowsFreeze mL_X2_82 (xw_con (i := 0) (by decide) (c_allowsFreeze g _ _ (by decide) (xtab X (7 + 6 * 0)) γ R G (k := tx L ch (i + 1) - 48) rfl (by omega))) (by decide) (by decide) (xw_r g _ _ (i := 0) (by decide)) rfl rfl rfl (Nat.le_of_ble_eq_true rfl) dX2_playStep_63 rfl ?_
        rintro _ w63 ⟨x63, rfl, e⟩
        obtain ⟨rfl, rfl⟩ := e
        rw [xw_tab g w _ (show 0 < 10 by decide)]
        rw [ho]
        refine j_if_eq h (tgt := 80) (q := 69) dX2_playStep_66 rfl (by decide) (fun c_66 => ?_) (fun c_66 => ?_)
        · exact absurd (show b2i true = 0 from c_66) (by decide)
        refine j_aload_n h (q := 70) 2 dX2_playStep_69 rfl rfl ?_
        refine j_get h (q := 73) inX2 (C := RX2) (T := TX2) (N := 9) (ci := 2) rfl 0 (by decide) mF_X2_10 (by decide) (xw_0 _ _ _) rfl dX2_playStep_70 rfl ?_
        refine j_iload_n h (q := 74) 0 dX2_playStep_73 rfl rfl ?_
        refine j_cV h (q := 77) (C := RX1) (T := TX1) (N := 9) (ci := 1) mo_X1_freezeHouse mI_X1_freezeHouse mV_X1_freezeHouse mL_X2_85 (xw_con (i := 0) (by decide) (c_freezeHouse g _ _ (by decide) (xtab X (7 + 6 * 0)) γ R G (k := tx L ch (i + 1) - 48) rfl (by omega) ho)) (by decide) (by decide) (xw_r g _ _ (i := 0) (by decide)) rfl rfl rfl (Nat.le_of_ble_eq_true rfl) dX2_playStep_74 rfl ?_
        rintro _ w74 ⟨x74, rfl, e⟩
        obtain ⟨rfl, T2, rfl, R2⟩ := e
        rw [xw_ut g w _ (show 0 < 10 by decide)]
        refine j_goto h (tgt := 82) dX2_playStep_77 (by decide) ?_
        refine j_iret h rfl dX2_playStep_82 ?_
        rw [hst]
        exact ⟨_, rfl, nI_ne5 (by have := G.2.2.1 (qt γ) (G_t G); omega), T2, rfl, R2⟩
    · have hk1 := hk
      obtain ⟨d1, d2⟩ := rs_m hr hk0 hk1
      cases ho : okG γ (tval L ch i) (tval L ch (tend L ch i + 1))
      · have hst : stepG L ch γ i = none := by unfold stepG; rw [if_neg hk0, if_neg hk1, ho]; rfl
        refine j_aload_n h (q := 1) 0 dX2_playStep_0 rfl rfl ?_
        refine j_get h (q := 4) inX2 (C := RX2) (T := TX2) (N := 9) (ci := 2) rfl 5 (by decide) mF_X2_33 (by decide) (xw_0 _ _ _) rfl dX2_playStep_1 rfl ?_
        refine j_iload_n h (q := 5) 1 dX2_playStep_4 rfl rfl ?_
        refine j_cV h (q := 8) (C := RX0) (T := TX0) (N := 2) (ci := 0) mo_X0_signAt mI_X0_signAt mV_X0_signAt mL_X2_216 (p_signAt g _ _ P (i := i) rfl (by omega)) (by decide) (by decide) (xw_5 _ _ _) rfl rfl rfl (Nat.le_of_ble_eq_true rfl) dX2_playStep_5 rfl ?_
        rintro _ w5 ⟨x5, rfl, e⟩
        obtain ⟨rfl, rfl⟩ := e
        have hb0 := tx_b P i
        have hb1 := tx_b P (i + 1)
        refine j_istore_n h (q := 9) (loc' := [(2, _), (0, _), (1, _)]) dX2_playStep_8 rfl (by decide) rfl ?_
        refine j_iload_n h (q := 10) 0 dX2_playStep_9 rfl rfl ?_
        refine j_bipush h (q := 12) (100) dX2_playStep_10 rfl (by decide) ?_
        refine j_icmp_ne h (tgt := 38) (q := 15) dX2_playStep_12 rfl (by decide) (fun c_12 => ?_) (fun c_12 => ?_)
        rotate_left
        · rw [i_eqL (by omega) (by decide)] at c_12; exact absurd c_12 hk0
        refine j_iload_n h (q := 39) 0 dX2_playStep_38 rfl rfl ?_
        refine j_bipush h (q := 41) (102) dX2_playStep_39 rfl (by decide) ?_
        refine j_icmp_ne h (tgt := 83) (q := 44) dX2_playStep_41 rfl (by decide) (fun c_41 => ?_) (fun c_41 => ?_)
        rotate_left
        · rw [i_eqL (by omega) (by decide)] at c_41; exact absurd c_41 hk1
        refine j_aload_n h (q := 84) 1 dX2_playStep_83 rfl rfl ?_
        refine j_get h (q := 87) inX2 (C := RX2) (T := TX2) (N := 9) (ci := 2) rfl 5 (by decide) mF_X2_33 (by decide) (xw_0 _ _ _) rfl dX2_playStep_84 rfl ?_
        refine j_iload_n h (q := 88) 2 dX2_playStep_87 rfl rfl ?_
        refine j_cV h (q := 91) (C := RX0) (T := TX0) (N := 2) (ci := 0) mo_X0_pileAt mI_X0_pileAt mV_X0_pileAt mL_X2_219 (p_pileAt g _ _ P (i := i) rfl (by omega) d1) (by decide) (by decide) (xw_5 _ _ _) rfl rfl rfl (Nat.le_of_ble_eq_true rfl) dX2_playStep_88 rfl ?_
        rintro _ w88 ⟨x88, rfl, e⟩
        obtain ⟨rfl, rfl⟩ := e
        refine j_istore_n h (q := 92) (loc' := [(3, _), (2, _), (0, _), (1, _)]) dX2_playStep_91 rfl (by decide) rfl ?_
        refine j_aload_n h (q := 93) 2 dX2_playStep_92 rfl rfl ?_
        refine j_get h (q := 96) inX2 (C := RX2) (T := TX2) (N := 9) (ci := 2) rfl 5 (by decide) mF_X2_33 (by decide) (xw_0 _ _ _) rfl dX2_playStep_93 rfl ?_
        refine j_aload_n h (q := 97) 2 dX2_playStep_96 rfl rfl ?_
        refine j_get h (q := 100) inX2 (C := RX2) (T := TX2) (N := 9) (ci := 2) rfl 5 (by decide) mF_X2_33 (by decide) (xw_0 _ _ _) rfl dX2_playStep_97 rfl ?_
        refine j_iload_n h (q := 101) 3 dX2_playStep_100 rfl rfl ?_
        refine j_cV h (q := 104) (C := RX0) (T := TX0) (N := 2) (ci := 0) mo_X0_pileEnd mI_X0_pileEnd mV_X0_pileEnd mL_X2_222 (p_pileEnd g _ _ P (i := i) rfl (by omega)) (by decide) (by decide) (xw_5 _ _ _) rfl rfl rfl (Nat.le_of_ble_eq_true rfl) dX2_playStep_101 rfl ?_
        rintro _ w101 ⟨x101, rfl, e⟩
        obtain ⟨rfl, rfl⟩ := e
        have hg := tend_ge L ch i
        refine j_iconst h (q := 105) (1) dX2_playStep_104 rfl (by decide) ?_
        refine j_iadd h (q := 106) dX2_playStep_105 rfl ?_
        refine j_cV h (q := 109) (C := RX0) (T := TX0) (N := 2) (ci := 0) mo_X0_pileAt mI_X0_pileAt mV_X0_pileAt mL_X2_219 (p_pileAt g _ _ P (i := tend L ch i + 1) (i_addL _ 1) (by omega) d2) (by decide) (by decide) (xw_5 _ _ _) rfl rfl rfl (Nat.le_of_ble_eq_true rfl) dX2_playStep_106 rfl ?_
        rintro _ w106 ⟨x106, rfl, e⟩
        obtain ⟨rfl, rfl⟩ := e
        refine j_istore h (q := 111) (loc' := [(4, _), (3, _), (2, _), (0, _), (1, _)]) dX2_playStep_109 rfl (by decide) rfl ?_
        refine j_aload_n h (q := 112) 3 dX2_playStep_111 rfl rfl ?_
        refine j_get h (q := 115) inX2 (C := RX2) (T := TX2) (N := 9) (ci := 2) rfl 0 (by decide) mF_X2_10 (by decide) (xw_0 _ _ _) rfl dX2_playStep_112 rfl ?_
        refine j_iload_n h (q := 116) 1 dX2_playStep_115 rfl rfl ?_
        refine j_iload h (q := 118) 0 dX2_playStep_116 rfl rfl ?_
        refine j_cV h (q := 121) (C := RX1) (T := TX1) (N := 9) (ci := 1) mo_X1_allowsMove mI_X1_allowsMove mV_X1_allowsMove mL_X2_63 (xw_con (i := 0) (by decide) (c_allowsMove g _ _ (by decide) (xtab X (7 + 6 * 0)) γ R G (f := tval L ch i) (u := tval L ch (tend L ch i + 1)) rfl rfl (tval_22 d1) (tval_22 d2))) (by decide) (by decide) (xw_r g _ _ (i := 0) (by decide)) rfl rfl rfl (Nat.le_of_ble_eq_true rfl) dX2_playStep_118 rfl ?_
        rintro _ w118 ⟨x118, rfl, e⟩
        obtain ⟨rfl, rfl⟩ := e
        rw [xw_tab g w _ (show 0 < 10 by decide)]
        rw [ho]
        refine j_if_eq h (tgt := 137) (q := 124) dX2_playStep_121 rfl (by decide) (fun c_121 => ?_) (fun c_121 => ?_)
        rotate_left
        · exact absurd (show b2i false = 0 from rfl) c_121
        refine j_bipush h (q := 139) (-5) dX2_playStep_137 rfl (by decide) ?_
        refine j_iret h rfl dX2_playStep_139 ?_
        rw [hst]
        exact ⟨_, rfl, rfl, rfl⟩
      · have hst : stepG L ch γ i = some (moveG γ (tval L ch i) (tval L ch (tend L ch i + 1))) := by unfold stepG; rw [if_neg hk0, if_neg hk1, ho]; rfl
        refine j_aload_n h (q := 1) 0 dX2_playStep_0 rfl rfl ?_
        refine j_get h (q := 4) inX2 (C := RX2) (T := TX2) (N := 9) (ci := 2) rfl 5 (by decide) mF_X2_33 (by decide) (xw_0 _ _ _) rfl dX2_playStep_1 rfl ?_
        refine j_iload_n h (q := 5) 1 dX2_playStep_4 rfl rfl ?_
        refine j_cV h (q := 8) (C := RX0) (T := TX0) (N := 2) (ci := 0) mo_X0_signAt mI_X0_signAt mV_X0_signAt mL_X2_216 (p_signAt g _ _ P (i := i) rfl (by omega)) (by decide) (by decide) (xw_5 _ _ _) rfl rfl rfl (Nat.le_of_ble_eq_true rfl) dX2_playStep_5 rfl ?_
        rintro _ w5 ⟨x5, rfl, e⟩
        obtain ⟨rfl, rfl⟩ := e
        have hb0 := tx_b P i
        have hb1 := tx_b P (i + 1)
        refine j_istore_n h (q := 9) (loc' := [(2, _), (0, _), (1, _)]) dX2_playStep_8 rfl (by decide) rfl ?_
        refine j_iload_n h (q := 10) 0 dX2_playStep_9 rfl rfl ?_
        refine j_bipush h (q := 12) (100) dX2_playStep_10 rfl (by decide) ?_
        refine j_icmp_ne h (tgt := 38) (q := 15) dX2_playStep_12 rfl (by decide) (fun c_12 => ?_) (fun c_12 => ?_)
        rotate_left
        · rw [i_eqL (by omega) (by decide)] at c_12; exact absurd c_12 hk0
        refine j_iload_n h (q := 39) 0 dX2_playStep_38 rfl rfl ?_
        refine j_bipush h (q := 41) (102) dX2_playStep_39 rfl (by decide) ?_
        refine j_icmp_ne h (tgt := 83) (q := 44) dX2_playStep_41 rfl (by decide) (fun c_41 => ?_) (fun c_41 => ?_)
        rotate_left
        · rw [i_eqL (by omega) (by decide)] at c_41; exact absurd c_41 hk1
        refine j_aload_n h (q := 84) 1 dX2_playStep_83 rfl rfl ?_
        refine j_get h (q := 87) inX2 (C := RX2) (T := TX2) (N := 9) (ci := 2) rfl 5 (by decide) mF_X2_33 (by decide) (xw_0 _ _ _) rfl dX2_playStep_84 rfl ?_
        refine j_iload_n h (q := 88) 2 dX2_playStep_87 rfl rfl ?_
        refine j_cV h (q := 91) (C := RX0) (T := TX0) (N := 2) (ci := 0) mo_X0_pileAt mI_X0_pileAt mV_X0_pileAt mL_X2_219 (p_pileAt g _ _ P (i := i) rfl (by omega) d1) (by decide) (by decide) (xw_5 _ _ _) rfl rfl rfl (Nat.le_of_ble_eq_true rfl) dX2_playStep_88 rfl ?_
        rintro _ w88 ⟨x88, rfl, e⟩
        obtain ⟨rfl, rfl⟩ := e
        refine j_istore_n h (q := 92) (loc' := [(3, _), (2, _), (0, _), (1, _)]) dX2_playStep_91 rfl (by decide) rfl ?_
        refine j_aload_n h (q := 93) 2 dX2_playStep_92 rfl rfl ?_
        refine j_get h (q := 96) inX2 (C := RX2) (T := TX2) (N := 9) (ci := 2) rfl 5 (by decide) mF_X2_33 (by decide) (xw_0 _ _ _) rfl dX2_playStep_93 rfl ?_
        refine j_aload_n h (q := 97) 2 dX2_playStep_96 rfl rfl ?_
        refine j_get h (q := 100) inX2 (C := RX2) (T := TX2) (N := 9) (ci := 2) rfl 5 (by decide) mF_X2_33 (by decide) (xw_0 _ _ _) rfl dX2_playStep_97 rfl ?_
        refine j_iload_n h (q := 101) 3 dX2_playStep_100 rfl rfl ?_
        refine j_cV h (q := 104) (C := RX0) (T := TX0) (N := 2) (ci := 0) mo_X0_pileEnd mI_X0_pileEnd mV_X0_pileEnd mL_X2_222 (p_pileEnd g _ _ P (i := i) rfl (by omega)) (by decide) (by decide) (xw_5 _ _ _) rfl rfl rfl (Nat.le_of_ble_eq_true rfl) dX2_playStep_101 rfl ?_
        rintro _ w101 ⟨x101, rfl, e⟩
        obtain ⟨rfl, rfl⟩ := e
        have hg := tend_ge L ch i
        refine j_iconst h (q := 105) (1) dX2_playStep_104 rfl (by decide) ?_
        refine j_iadd h (q := 106) dX2_playStep_105 rfl ?_
        refine j_cV h (q := 109) (C := RX0) (T := TX0) (N := 2) (ci := 0) mo_X0_pileAt mI_X0_pileAt mV_X0_pileAt mL_X2_219 (p_pileAt g _ _ P (i := tend L ch i + 1) (i_addL _ 1) (by omega) d2) (by decide) (by decide) (xw_5 _ _ _) rfl rfl rfl (Nat.le_of_ble_eq_true rfl) dX2_playStep_106 rfl ?_
        rintro _ w106 ⟨x106, rfl, e⟩
        obtain ⟨rfl, rfl⟩ := e
        refine j_istore h (q := 111) (loc' := [(4, _), (3, _), (2, _), (0, _), (1, _)]) dX2_playStep_109 rfl (by decide) rfl ?_
        refine j_aload_n h (q := 112) 3 dX2_playStep_111 rfl rfl ?_
        refine j_get h (q := 115) inX2 (C := RX2) (T := TX2) (N := 9) (ci := 2) rfl 0 (by decide) mF_X2_10 (by decide) (xw_0 _ _ _) rfl dX2_playStep_112 rfl ?_
        refine j_iload_n h (q := 116) 1 dX2_playStep_115 rfl rfl ?_
        refine j_iload h (q := 118) 0 dX2_playStep_116 rfl rfl ?_
        refine j_cV h (q := 121) (C := RX1) (T := TX1) (N := 9) (ci := 1) mo_X1_allowsMove mI_X1_allowsMove mV_X1_allowsMove mL_X2_63 (xw_con (i := 0) (by decide) (c_allowsMove g _ _ (by decide) (xtab X (7 + 6 * 0)) γ R G (f := tval L ch i) (u := tval L ch (tend L ch i + 1)) rfl rfl (tval_22 d1) (tval_22 d2))) (by decide) (by decide) (xw_r g _ _ (i := 0) (by decide)) rfl rfl rfl (Nat.le_of_ble_eq_true rfl) dX2_playStep_118 rfl ?_
        rintro _ w118 ⟨x118, rfl, e⟩
        obtain ⟨rfl, rfl⟩ := e
        rw [xw_tab g w _ (show 0 < 10 by decide)]
        rw [ho]
        refine j_if_eq h (tgt := 137) (q := 124) dX2_playStep_121 rfl (by decide) (fun c_121 => ?_) (fun c_121 => ?_)
        · exact absurd (show b2i true = 0 from c_121) (by decide)
        refine j_aload_n h (q := 125) 3 dX2_playStep_124 rfl rfl ?_
        refine j_get h (q := 128) inX2 (C := RX2) (T := TX2) (N := 9) (ci := 2) rfl 0 (by decide) mF_X2_10 (by decide) (xw_0 _ _ _) rfl dX2_playStep_125 rfl ?_
        refine j_iload_n h (q := 129) 1 dX2_playStep_128 rfl rfl ?_
        refine j_iload h (q := 131) 0 dX2_playStep_129 rfl rfl ?_
        refine j_cV h (q := 134) (C := RX1) (T := TX1) (N := 9) (ci := 1) mo_X1_moveCard mI_X1_moveCard mV_X1_moveCard mL_X2_67 (xw_con (i := 0) (by decide) (c_moveCard g _ _ (by decide) (xtab X (7 + 6 * 0)) γ R G (f := tval L ch i) (u := tval L ch (tend L ch i + 1)) rfl rfl (tval_22 d1) (tval_22 d2) ho)) (by decide) (by decide) (xw_r g _ _ (i := 0) (by decide)) rfl rfl rfl (Nat.le_of_ble_eq_true rfl) dX2_playStep_131 rfl ?_
        rintro _ w131 ⟨x131, rfl, e⟩
        obtain ⟨rfl, T2, rfl, R2⟩ := e
        rw [xw_ut g w _ (show 0 < 10 by decide)]
        refine j_goto h (tgt := 139) dX2_playStep_134 (by decide) ?_
        refine j_iret h rfl dX2_playStep_139 ?_
        rw [hst]
        exact ⟨_, rfl, gain_ne5 _ _ _, T2, rfl, R2⟩


set_option maxRecDepth 100000 in
set_option maxHeartbeats 4000000 in
theorem lp_all (g : jG) (w : jW) (X : Xs) {L : Nat} {ch : Nat → Nat} (P : PD X L ch) {K : jK} {Φ : Option Value → jW → Prop} (h : jH g K RX2 cX2_playAll 3 (some (.int))) : ∀ n j γ i T, (i = L + 1 ∨ vtG L ch n i) → 2 * j ≤ i → i ≤ L + 1 → TR T γ → GI γ → (∀ T' l, TR T' (allG L ch n γ i).1 → J g 6 K 3 Φ 65 ((1, .int (nI (j + (allG L ch n γ i).2))) :: (0, .ref (gr g 0)) :: l) [] (xw g w (yTab X 0 T'))) → J g 6 K 3 Φ 23 [(2, .int (nI (i))), (1, .int (nI (j))), (0, .ref (gr g 0))] [] (xw g w (yTab X 0 T)) := by
  have hL := P.2.1
  intro n
  induction n with
  | zero =>
    intro j γ i T hv hj hiL R G kk
    rcases hv with hv | hv
    · subst hv
      have hal : allG L ch 0 γ (L + 1) = (γ, 0) := rfl
      refine j_iload_n h (q := 24) 1 dX2_playAll_23 rfl rfl ?_
      refine j_bipush h (q := 26) (60) dX2_playAll_24 rfl (by decide) ?_
      refine j_icmp_ge h (tgt := 65) (q := 29) dX2_playAll_26 rfl (by decide) (fun c_26 => ?_) (fun c_26 => ?_)
      · exact absurd c_26 (by rw [i_Lle (by omega) (by omega)]; omega)
      refine j_iload_n h (q := 30) 0 dX2_playAll_29 rfl rfl ?_
      refine j_aload_n h (q := 31) 2 dX2_playAll_30 rfl rfl ?_
      refine j_get h (q := 34) inX2 (C := RX2) (T := TX2) (N := 9) (ci := 2) rfl 5 (by decide) mF_X2_33 (by decide) (xw_0 _ _ _) rfl dX2_playAll_31 rfl ?_
      refine j_get h (q := 37) inX0 (C := RX0) (T := TX0) (N := 2) (ci := 0) rfl 1 (by decide) mF_X2_95 (by decide) (xw_5 _ _ _) rfl dX2_playAll_34 rfl ?_
      rw [show Xln (yTab X 0 T) = nI L from P.1]
      refine j_icmp_ge h (tgt := 65) (q := 40) dX2_playAll_37 rfl (by decide) (fun c_37 => ?_) (fun c_37 => ?_)
      rotate_left
      · exact absurd (show nI L ≤ nI (L + 1) by rw [nI_leS (by omega) (by omega)]; omega) c_37
      have h8 := kk T [(2, .int (nI (L + 1)))] (by rw [hal]; exact R)
      rw [hal] at h8
      exact j_sub [1, 2, 0] rfl h8
    · exact hv.elim
  | succ n ih =>
    intro j γ i T hv hj hiL R G kk
    rcases hv with hv | hv
    · subst hv
      have hal : allG L ch (n + 1) γ (L + 1) = (γ, 0) := by unfold allG; rw [if_neg (by omega)]
      refine j_iload_n h (q := 24) 1 dX2_playAll_23 rfl rfl ?_
      refine j_bipush h (q := 26) (60) dX2_playAll_24 rfl (by decide) ?_
      refine j_icmp_ge h (tgt := 65) (q := 29) dX2_playAll_26 rfl (by decide) (fun c_26 => ?_) (fun c_26 => ?_)
      · exact absurd c_26 (by rw [i_Lle (by omega) (by omega)]; omega)
      refine j_iload_n h (q := 30) 0 dX2_playAll_29 rfl rfl ?_
      refine j_aload_n h (q := 31) 2 dX2_playAll_30 rfl rfl ?_
      refine j_get h (q := 34) inX2 (C := RX2) (T := TX2) (N := 9) (ci := 2) rfl 5 (by decide) mF_X2_33 (by decide) (xw_0 _ _ _) rfl dX2_playAll_31 rfl ?_
      refine j_get h (q := 37) inX0 (C := RX0) (T := TX0) (N := 2) (ci := 0) rfl 1 (by decide) mF_X2_95 (by decide) (xw_5 _ _ _) rfl dX2_playAll_34 rfl ?_
      rw [show Xln (yTab X 0 T) = nI L from P.1]
      refine j_icmp_ge h (tgt := 65) (q := 40) dX2_playAll_37 rfl (by decide) (fun c_37 => ?_) (fun c_37 => ?_)
      rotate_left
      · exact absurd (show nI L ≤ nI (L + 1) by rw [nI_leS (by omega) (by omega)]; omega) c_37
      have h8 := kk T [(2, .int (nI (L + 1)))] (by rw [hal]; exact R)
      rw [hal] at h8
      exact j_sub [1, 2, 0] rfl h8
    · have hlt := vt_lt hv
      cases hs : stepG L ch γ i with
      | none =>
        have hal : allG L ch (n + 1) γ i = (γ, 0) := by rw [allG, if_pos hlt, hs]
        refine j_iload_n h (q := 24) 1 dX2_playAll_23 rfl rfl ?_
        refine j_bipush h (q := 26) (60) dX2_playAll_24 rfl (by decide) ?_
        refine j_icmp_ge h (tgt := 65) (q := 29) dX2_playAll_26 rfl (by decide) (fun c_26 => ?_) (fun c_26 => ?_)
        · exact absurd c_26 (by rw [i_Lle (by omega) (by omega)]; omega)
        refine j_iload_n h (q := 30) 0 dX2_playAll_29 rfl rfl ?_
        refine j_aload_n h (q := 31) 2 dX2_playAll_30 rfl rfl ?_
        refine j_get h (q := 34) inX2 (C := RX2) (T := TX2) (N := 9) (ci := 2) rfl 5 (by decide) mF_X2_33 (by decide) (xw_0 _ _ _) rfl dX2_playAll_31 rfl ?_
        refine j_get h (q := 37) inX0 (C := RX0) (T := TX0) (N := 2) (ci := 0) rfl 1 (by decide) mF_X2_95 (by decide) (xw_5 _ _ _) rfl dX2_playAll_34 rfl ?_
        rw [show Xln (yTab X 0 T) = nI L from P.1]
        refine j_icmp_ge h (tgt := 65) (q := 40) dX2_playAll_37 rfl (by decide) (fun c_37 => ?_) (fun c_37 => ?_)
        · exact absurd c_37 (by rw [nI_leS (by omega) (by omega)]; omega)
        refine j_aload_n h (q := 41) 2 dX2_playAll_40 rfl rfl ?_
        refine j_iload_n h (q := 42) 0 dX2_playAll_41 rfl rfl ?_
        refine j_cV h (q := 45) (C := RX2) (T := TX2) (N := 9) (ci := 2) mo_X2_playStep mI_X2_playStep mV_X2_playStep mL_X2_98 (c_playStep g w (yTab X 0 T) (show PD (yTab X 0 T) L ch from P) γ R G (by omega) hv.1) (by decide) (by decide) (xw_0 _ _ _) rfl rfl rfl (Nat.le_of_ble_eq_true rfl) dX2_playAll_42 rfl ?_
        rintro _ w42 ⟨x42, rfl, e⟩
        rw [hs] at e
        obtain ⟨rfl, rfl⟩ := e
        refine j_bipush h (q := 47) (-5) dX2_playAll_45 rfl (by decide) ?_
        refine j_icmp_eq h (tgt := 65) (q := 50) dX2_playAll_47 rfl (by decide) (fun c_47 => ?_) (fun c_47 => ?_)
        rotate_left
        · exact absurd rfl c_47
        have h8 := kk T [(2, .int (nI i))] (by rw [hal]; exact R)
        rw [hal] at h8
        exact j_sub [1, 2, 0] rfl h8
      | some γ' =>
        have hal : allG L ch (n + 1) γ i = ((allG L ch n γ' ((rsG L ch i).2 + 1)).1, (allG L ch n γ' ((rsG L ch i).2 + 1)).2 + 1) := by rw [allG, if_pos hlt, hs]
        refine j_iload_n h (q := 24) 1 dX2_playAll_23 rfl rfl ?_
        refine j_bipush h (q := 26) (60) dX2_playAll_24 rfl (by decide) ?_
        refine j_icmp_ge h (tgt := 65) (q := 29) dX2_playAll_26 rfl (by decide) (fun c_26 => ?_) (fun c_26 => ?_)
        · exact absurd c_26 (by rw [i_Lle (by omega) (by omega)]; omega)
        refine j_iload_n h (q := 30) 0 dX2_playAll_29 rfl rfl ?_
        refine j_aload_n h (q := 31) 2 dX2_playAll_30 rfl rfl ?_
        refine j_get h (q := 34) inX2 (C := RX2) (T := TX2) (N := 9) (ci := 2) rfl 5 (by decide) mF_X2_33 (by decide) (xw_0 _ _ _) rfl dX2_playAll_31 rfl ?_
        refine j_get h (q := 37) inX0 (C := RX0) (T := TX0) (N := 2) (ci := 0) rfl 1 (by decide) mF_X2_95 (by decide) (xw_5 _ _ _) rfl dX2_playAll_34 rfl ?_
        rw [show Xln (yTab X 0 T) = nI L from P.1]
        refine j_icmp_ge h (tgt := 65) (q := 40) dX2_playAll_37 rfl (by decide) (fun c_37 => ?_) (fun c_37 => ?_)
        · exact absurd c_37 (by rw [nI_leS (by omega) (by omega)]; omega)
        refine j_aload_n h (q := 41) 2 dX2_playAll_40 rfl rfl ?_
        refine j_iload_n h (q := 42) 0 dX2_playAll_41 rfl rfl ?_
        refine j_cV h (q := 45) (C := RX2) (T := TX2) (N := 9) (ci := 2) mo_X2_playStep mI_X2_playStep mV_X2_playStep mL_X2_98 (c_playStep g w (yTab X 0 T) (show PD (yTab X 0 T) L ch from P) γ R G (by omega) hv.1) (by decide) (by decide) (xw_0 _ _ _) rfl rfl rfl (Nat.le_of_ble_eq_true rfl) dX2_playAll_42 rfl ?_
        rintro _ w42 ⟨x42, rfl, e⟩
        rw [hs] at e
        obtain ⟨hne, T2, rfl, R2⟩ := e
        rw [y_tt X (by decide)]
        refine j_bipush h (q := 47) (-5) dX2_playAll_45 rfl (by decide) ?_
        refine j_icmp_eq h (tgt := 65) (q := 50) dX2_playAll_47 rfl (by decide) (fun c_47 => ?_) (fun c_47 => ?_)
        · exact absurd c_47 hne
        refine j_iinc h (q := 53) (loc' := [(1, _), (2, _), (0, _)]) 1 _ dX2_playAll_50 rfl rfl rfl (by decide) rfl ?_
        refine j_aload_n h (q := 54) 2 dX2_playAll_53 rfl rfl ?_
        refine j_get h (q := 57) inX2 (C := RX2) (T := TX2) (N := 9) (ci := 2) rfl 5 (by decide) mF_X2_33 (by decide) (xw_0 _ _ _) rfl dX2_playAll_54 rfl ?_
        refine j_iload_n h (q := 58) 1 dX2_playAll_57 rfl rfl ?_
        refine j_cV h (q := 61) (C := RX0) (T := TX0) (N := 2) (ci := 0) mo_X0_nextStep mI_X0_nextStep mV_X0_nextStep mL_X2_101 (p_nextStep g _ _ (show PD (yTab X 0 T2) L ch from P) (s := (rsG L ch i).2) (Nat.le_of_lt (rs_gt hv.1).1) (rs_gt hv.1).2 (fun k h1 h2 => rs_nc hv.1 h1 h2) (by rcases hv.2 with z | z; exact Or.inl z; exact Or.inr z.2.1)) (by decide) (by decide) (xw_5 _ _ _) rfl rfl rfl (Nat.le_of_ble_eq_true rfl) dX2_playAll_58 rfl ?_
        rintro _ w58 ⟨x58, rfl, e⟩
        obtain ⟨rfl, rfl⟩ := e
        refine j_istore_n h (q := 62) (loc' := [(2, _), (1, _), (0, _)]) dX2_playAll_61 rfl (by decide) rfl ?_
        refine j_goto h (tgt := 23) dX2_playAll_62 (by decide) ?_
        rw [show nI j + Int32.ofInt 1 = nI (j + 1) from nI_1 j]
        refine j_sub [0, 1, 2] rfl ?_
        refine ih (j + 1) γ' ((rsG L ch i).2 + 1) T2 ?_ (by have := (rs_gt hv.1).1; omega) (by have := (rs_gt hv.1).2; omega) R2 (GI_step G hv.1 hs) (fun T' l h9 => ?_)
        · rcases hv.2 with z | z
          · exact Or.inl (by rw [z])
          · exact Or.inr z.2.2
        · have h8 := kk T' l (by rw [hal]; exact h9)
          rw [hal] at h8
          rw [show j + 1 + (allG L ch n γ' ((rsG L ch i).2 + 1)).2 = j + ((allG L ch n γ' ((rsG L ch i).2 + 1)).2 + 1) by omega]
          exact h8
