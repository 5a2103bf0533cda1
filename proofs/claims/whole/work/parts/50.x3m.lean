set_option maxRecDepth 100000 in
set_option maxHeartbeats 4000000 in
theorem m_doesStep (g : jG) (w : jW) (M : Ms) {L : Nat} {ch : Nat → Nat} (P : MD M L ch) (γ : Gm) (R : MR (Mst M) γ) (G : GI γ) {i : Nat} (hr : (rsG L ch i).1 = true) (hl : Mle M = ctI L ch i) (hf : tx L ch i ≠ 100 → (tx L ch i = 102 → Mfi M = nI (tx L ch (i + 1) - 48)) ∧ (tx L ch i ≠ 102 → Mfi M = nI (tval L ch i) ∧ Mse M = nI (tval L ch (tend L ch i + 1))))  : ConI g 6 yX3_doesStep cX3_doesStep 2 (some (.boolean)) [.ref (gr g 67)] (mw g w M) (fun x w' => x = b2i (stepG L ch γ i).isSome ∧ ∃ M', w' = mw g w M' ∧ KE M M' ∧ Mat M' = Mat M ∧ MR (Mst M') ((stepG L ch γ i).getD γ)) := by
  refine con_of (by decide +kernel) (Nat.le_of_ble_eq_true rfl) [(0, _)] rfl (fun K h => ?_)
  by_cases h100 : tx L ch i = 100
  · cases ho : qo γ with
    | true =>
      have hs : stepG L ch γ i = none := by unfold stepG; rw [if_pos h100, ho]; rfl
      refine j_aload_n h (q := 1) 0 dX3_doesStep_0 rfl rfl ?_
      refine j_get h (q := 4) inX3 (C := RX3) (T := TX3) (N := 17) (ci := 3) rfl 14 (by decide) mF_X3_180 (by decide) (mw_0 _ _ _) rfl dX3_doesStep_1 rfl ?_
      refine j_bipush h (q := 6) (100) dX3_doesStep_4 rfl (by decide) ?_
      refine j_icmp_ne h (tgt := 37) (q := 9) dX3_doesStep_6 rfl (by decide) (fun c_6 => ?_) (fun c_6 => ?_)
      · exact absurd (hl.trans ((ct_eq P (k := 100) (by decide) (by decide)).mpr h100)) c_6
      refine j_aload_n h (q := 10) 0 dX3_doesStep_9 rfl rfl ?_
      refine j_get h (q := 13) inX3 (C := RX3) (T := TX3) (N := 17) (ci := 3) rfl 0 (by decide) mF_X3_7 (by decide) (mw_0 _ _ _) rfl dX3_doesStep_10 rfl ?_
      refine j_sipush h (q := 16) (221) dX3_doesStep_13 rfl (by decide) ?_
      refine j_ldn h (q := 17) (221) (by decide) (mw_st _ _ _) rfl (by decide) (by decide) dX3_doesStep_16 rfl ?_
      rw [M_ov R, ho]
      refine j_if_ne h (tgt := 24) (q := 20) dX3_doesStep_17 rfl (by decide) (fun c_17 => ?_) (fun c_17 => ?_)
      rotate_left
      · exact absurd (show _ = (0 : Int32) from c_17) (by decide)
      refine j_iconst h (q := 25) (0) dX3_doesStep_24 rfl (by decide) ?_
      refine j_istore_n h (q := 26) (loc' := [(1, _), (0, _)]) dX3_doesStep_25 rfl (by decide) rfl ?_
      refine j_iload_n h (q := 27) 0 dX3_doesStep_26 rfl rfl ?_
      refine j_if_eq h (tgt := 35) (q := 30) dX3_doesStep_27 rfl (by decide) (fun c_27 => ?_) (fun c_27 => ?_)
      rotate_left
      · exact absurd rfl c_27
      refine j_iload_n h (q := 36) 0 dX3_doesStep_35 rfl rfl ?_
      refine j_zret h rfl (by first | rfl | decide) dX3_doesStep_36 ?_
      exact ⟨_, rfl, by rw [hs]; rfl, M, rfl, KE_r M, rfl, by rw [hs]; exact R⟩
    | false =>
      have hs : stepG L ch γ i = some (drawG γ) := by unfold stepG; rw [if_pos h100, ho]; rfl
      refine j_aload_n h (q := 1) 0 dX3_doesStep_0 rfl rfl ?_
      refine j_get h (q := 4) inX3 (C := RX3) (T := TX3) (N := 17) (ci := 3) rfl 14 (by decide) mF_X3_180 (by decide) (mw_0 _ _ _) rfl dX3_doesStep_1 rfl ?_
      refine j_bipush h (q := 6) (100) dX3_doesStep_4 rfl (by decide) ?_
      refine j_icmp_ne h (tgt := 37) (q := 9) dX3_doesStep_6 rfl (by decide) (fun c_6 => ?_) (fun c_6 => ?_)
      · exact absurd (hl.trans ((ct_eq P (k := 100) (by decide) (by decide)).mpr h100)) c_6
      refine j_aload_n h (q := 10) 0 dX3_doesStep_9 rfl rfl ?_
      refine j_get h (q := 13) inX3 (C := RX3) (T := TX3) (N := 17) (ci := 3) rfl 0 (by decide) mF_X3_7 (by decide) (mw_0 _ _ _) rfl dX3_doesStep_10 rfl ?_
      refine j_sipush h (q := 16) (221) dX3_doesStep_13 rfl (by decide) ?_
      refine j_ldn h (q := 17) (221) (by decide) (mw_st _ _ _) rfl (by decide) (by decide) dX3_doesStep_16 rfl ?_
      rw [M_ov R, ho]
      refine j_if_ne h (tgt := 24) (q := 20) dX3_doesStep_17 rfl (by decide) (fun c_17 => ?_) (fun c_17 => ?_)
      · exact absurd rfl c_17
      refine j_iconst h (q := 21) (1) dX3_doesStep_20 rfl (by decide) ?_
      refine j_goto h (tgt := 25) dX3_doesStep_21 (by decide) ?_
      refine j_istore_n h (q := 26) (loc' := [(1, _), (0, _)]) dX3_doesStep_25 rfl (by decide) rfl ?_
      refine j_iload_n h (q := 27) 0 dX3_doesStep_26 rfl rfl ?_
      refine j_if_eq h (tgt := 35) (q := 30) dX3_doesStep_27 rfl (by decide) (fun c_27 => ?_) (fun c_27 => ?_)
      · exact absurd (show _ = (0 : Int32) from c_27) (by decide)
      refine j_aload_n h (q := 31) 1 dX3_doesStep_30 rfl rfl ?_
      refine j_cV h (q := 34) (C := RX3) (T := TX3) (N := 17) (ci := 3) mo_X3_draws mI_X3_draws mV_X3_draws mL_X3_127 (m_draws g w M γ R G ho) (by decide) (by decide) (mw_0 _ _ _) rfl rfl rfl (Nat.le_of_ble_eq_true rfl) dX3_doesStep_31 rfl ?_
      rintro _ w31 ⟨x31, rfl, e⟩
      obtain ⟨rfl, st, sz, tp, rfl, R2⟩ := e
      refine j_pop h (q := 35) dX3_doesStep_34 rfl rfl ?_
      refine j_iload_n h (q := 36) 0 dX3_doesStep_35 rfl rfl ?_
      refine j_zret h rfl (by first | rfl | decide) dX3_doesStep_36 ?_
      exact ⟨_, rfl, by rw [hs]; rfl, _, rfl, ⟨rfl, rfl, rfl, rfl, rfl, rfl, rfl⟩, rfl, by rw [hs]; exact R2⟩
  · by_cases h102 : tx L ch i = 102
    · have hc := rs_f hr h100 h102
      have hfi := (hf h100).1 h102
      have h8 : tx L ch (i + 1) - 48 < 8 := by omega
      cases hk : okF γ (tx L ch (i + 1) - 48) with
      | false =>
        have hs : stepG L ch γ i = none := by unfold stepG; rw [if_neg h100, if_pos h102, hk]; rfl
        refine j_aload_n h (q := 1) 0 dX3_doesStep_0 rfl rfl ?_
        refine j_get h (q := 4) inX3 (C := RX3) (T := TX3) (N := 17) (ci := 3) rfl 14 (by decide) mF_X3_180 (by decide) (mw_0 _ _ _) rfl dX3_doesStep_1 rfl ?_
        refine j_bipush h (q := 6) (100) dX3_doesStep_4 rfl (by decide) ?_
        refine j_icmp_ne h (tgt := 37) (q := 9) dX3_doesStep_6 rfl (by decide) (fun c_6 => ?_) (fun c_6 => ?_)
        rotate_left
        · exact absurd ((ct_eq P (k := 100) (by decide) (by decide)).mp (hl.symm.trans c_6)) h100
        refine j_aload_n h (q := 38) 0 dX3_doesStep_37 rfl rfl ?_
        refine j_get h (q := 41) inX3 (C := RX3) (T := TX3) (N := 17) (ci := 3) rfl 14 (by decide) mF_X3_180 (by decide) (mw_0 _ _ _) rfl dX3_doesStep_38 rfl ?_
        refine j_bipush h (q := 43) (102) dX3_doesStep_41 rfl (by decide) ?_
        refine j_icmp_ne h (tgt := 78) (q := 46) dX3_doesStep_43 rfl (by decide) (fun c_43 => ?_) (fun c_43 => ?_)
        · exact absurd (hl.trans ((ct_eq P (k := 102) (by decide) (by decide)).mpr h102)) c_43
        refine j_aload_n h (q := 47) 0 dX3_doesStep_46 rfl rfl ?_
        refine j_aload_n h (q := 48) 0 dX3_doesStep_47 rfl rfl ?_
        refine j_get h (q := 51) inX3 (C := RX3) (T := TX3) (N := 17) (ci := 3) rfl 15 (by decide) mF_X3_186 (by decide) (mw_0 _ _ _) rfl dX3_doesStep_48 rfl ?_
        rw [hfi]
        refine j_cV h (q := 54) (C := RX3) (T := TX3) (N := 17) (ci := 3) mo_X3_whyNoFreeze mI_X3_whyNoFreeze mV_X3_whyNoFreeze mL_X3_139 (m_whyF2 g w M γ R G h8) (by decide) (by decide) (mw_0 _ _ _) rfl rfl rfl (Nat.le_of_ble_eq_true rfl) dX3_doesStep_51 rfl ?_
        rintro _ w51 ⟨x51, rfl, e⟩
        obtain ⟨rfl, rfl⟩ := e
        rw [hk]
        refine j_if_ne h (tgt := 61) (q := 57) dX3_doesStep_54 rfl (by decide) (fun c_54 => ?_) (fun c_54 => ?_)
        rotate_left
        · exact absurd (show _ = (0 : Int32) from c_54) (by decide)
        refine j_iconst h (q := 62) (0) dX3_doesStep_61 rfl (by decide) ?_
        refine j_istore_n h (q := 63) (loc' := [(1, _), (0, _)]) dX3_doesStep_62 rfl (by decide) rfl ?_
        refine j_iload_n h (q := 64) 0 dX3_doesStep_63 rfl rfl ?_
        refine j_if_eq h (tgt := 76) (q := 67) dX3_doesStep_64 rfl (by decide) (fun c_64 => ?_) (fun c_64 => ?_)
        rotate_left
        · exact absurd rfl c_64
        refine j_iload_n h (q := 77) 0 dX3_doesStep_76 rfl rfl ?_
        refine j_zret h rfl (by first | rfl | decide) dX3_doesStep_77 ?_
        exact ⟨_, rfl, by rw [hs]; rfl, M, rfl, KE_r M, rfl, by rw [hs]; exact R⟩
      | true =>
        have hs : stepG L ch γ i = some (freezeG γ (tx L ch (i + 1) - 48)) := by unfold stepG; rw [if_neg h100, if_pos h102, hk]; rfl
        refine j_aload_n h (q := 1) 0 dX3_doesStep_0 rfl rfl ?_
        refine j_get h (q := 4) inX3 (C := RX3) (T := TX3) (N := 17) (ci := 3) rfl 14 (by decide) mF_X3_180 (by decide) (mw_0 _ _ _) rfl dX3_doesStep_1 rfl ?_
        refine j_bipush h (q := 6) (100) dX3_doesStep_4 rfl (by decide) ?_
        refine j_icmp_ne h (tgt := 37) (q := 9) dX3_doesStep_6 rfl (by decide) (fun c_6 => ?_) (fun c_6 => ?_)
        rotate_left
        · exact absurd ((ct_eq P (k := 100) (by decide) (by decide)).mp (hl.symm.trans c_6)) h100
        refine j_aload_n h (q := 38) 0 dX3_doesStep_37 rfl rfl ?_
        refine j_get h (q := 41) inX3 (C := RX3) (T := TX3) (N := 17) (ci := 3) rfl 14 (by decide) mF_X3_180 (by decide) (mw_0 _ _ _) rfl dX3_doesStep_38 rfl ?_
        refine j_bipush h (q := 43) (102) dX3_doesStep_41 rfl (by decide) ?_
        refine j_icmp_ne h (tgt := 78) (q := 46) dX3_doesStep_43 rfl (by decide) (fun c_43 => ?_) (fun c_43 => ?_)
        · exact absurd (hl.trans ((ct_eq P (k := 102) (by decide) (by decide)).mpr h102)) c_43
        refine j_aload_n h (q := 47) 0 dX3_doesStep_46 rfl rfl ?_
        refine j_aload_n h (q := 48) 0 dX3_doesStep_47 rfl rfl ?_
        refine j_get h (q := 51) inX3 (C := RX3) (T := TX3) (N := 17) (ci := 3) rfl 15 (by decide) mF_X3_186 (by decide) (mw_0 _ _ _) rfl dX3_doesStep_48 rfl ?_
        rw [hfi]
        refine j_cV h (q := 54) (C := RX3) (T := TX3) (N := 17) (ci := 3) mo_X3_whyNoFreeze mI_X3_whyNoFreeze mV_X3_whyNoFreeze mL_X3_139 (m_whyF2 g w M γ R G h8) (by decide) (by decide) (mw_0 _ _ _) rfl rfl rfl (Nat.le_of_ble_eq_true rfl) dX3_doesStep_51 rfl ?_
        rintro _ w51 ⟨x51, rfl, e⟩
        obtain ⟨rfl, rfl⟩ := e
        rw [hk]
        refine j_if_ne h (tgt := 61) (q := 57) dX3_doesStep_54 rfl (by decide) (fun c_54 => ?_) (fun c_54 => ?_)
        · exact absurd rfl c_54
        refine j_iconst h (q := 58) (1) dX3_doesStep_57 rfl (by decide) ?_
        refine j_goto h (tgt := 62) dX3_doesStep_58 (by decide) ?_
        refine j_istore_n h (q := 63) (loc' := [(1, _), (0, _)]) dX3_doesStep_62 rfl (by decide) rfl ?_
        refine j_iload_n h (q := 64) 0 dX3_doesStep_63 rfl rfl ?_
        refine j_if_eq h (tgt := 76) (q := 67) dX3_doesStep_64 rfl (by decide) (fun c_64 => ?_) (fun c_64 => ?_)
        · exact absurd (show _ = (0 : Int32) from c_64) (by decide)
        refine j_aload_n h (q := 68) 1 dX3_doesStep_67 rfl rfl ?_
        refine j_aload_n h (q := 69) 1 dX3_doesStep_68 rfl rfl ?_
        refine j_get h (q := 72) inX3 (C := RX3) (T := TX3) (N := 17) (ci := 3) rfl 15 (by decide) mF_X3_186 (by decide) (mw_0 _ _ _) rfl dX3_doesStep_69 rfl ?_
        rw [hfi]
        refine j_cV h (q := 75) (C := RX3) (T := TX3) (N := 17) (ci := 3) mo_X3_freezes mI_X3_freezes mV_X3_freezes mL_X3_142 (m_freezes g w M γ R G h8 hk) (by decide) (by decide) (mw_0 _ _ _) rfl rfl rfl (Nat.le_of_ble_eq_true rfl) dX3_doesStep_72 rfl ?_
        rintro _ w72 ⟨x72, rfl, e⟩
        obtain ⟨rfl, st, rfl, R2⟩ := e
        refine j_pop h (q := 76) dX3_doesStep_75 rfl rfl ?_
        refine j_iload_n h (q := 77) 0 dX3_doesStep_76 rfl rfl ?_
        refine j_zret h rfl (by first | rfl | decide) dX3_doesStep_77 ?_
        exact ⟨_, rfl, by rw [hs]; rfl, _, rfl, ⟨rfl, rfl, rfl, rfl, rfl, rfl, rfl⟩, rfl, by rw [hs]; exact R2⟩
    · obtain ⟨d1, d2⟩ := rs_m hr h100 h102
      have v1 := tval_22 d1
      have v2 := tval_22 d2
      obtain ⟨hfi, hse⟩ := (hf h100).2 h102
      cases hk : okG γ (tval L ch i) (tval L ch (tend L ch i + 1)) with
      | false =>
        have hs : stepG L ch γ i = none := by unfold stepG; rw [if_neg h100, if_neg h102, hk]; rfl
        refine j_aload_n h (q := 1) 0 dX3_doesStep_0 rfl rfl ?_
        refine j_get h (q := 4) inX3 (C := RX3) (T := TX3) (N := 17) (ci := 3) rfl 14 (by decide) mF_X3_180 (by decide) (mw_0 _ _ _) rfl dX3_doesStep_1 rfl ?_
        refine j_bipush h (q := 6) (100) dX3_doesStep_4 rfl (by decide) ?_
        refine j_icmp_ne h (tgt := 37) (q := 9) dX3_doesStep_6 rfl (by decide) (fun c_6 => ?_) (fun c_6 => ?_)
        rotate_left
        · exact absurd ((ct_eq P (k := 100) (by decide) (by decide)).mp (hl.symm.trans c_6)) h100
        refine j_aload_n h (q := 38) 0 dX3_doesStep_37 rfl rfl ?_
        refine j_get h (q := 41) inX3 (C := RX3) (T := TX3) (N := 17) (ci := 3) rfl 14 (by decide) mF_X3_180 (by decide) (mw_0 _ _ _) rfl dX3_doesStep_38 rfl ?_
        refine j_bipush h (q := 43) (102) dX3_doesStep_41 rfl (by decide) ?_
        refine j_icmp_ne h (tgt := 78) (q := 46) dX3_doesStep_43 rfl (by decide) (fun c_43 => ?_) (fun c_43 => ?_)
        rotate_left
        · exact absurd ((ct_eq P (k := 102) (by decide) (by decide)).mp (hl.symm.trans c_43)) h102
        refine j_aload_n h (q := 79) 0 dX3_doesStep_78 rfl rfl ?_
        refine j_aload_n h (q := 80) 0 dX3_doesStep_79 rfl rfl ?_
        refine j_get h (q := 83) inX3 (C := RX3) (T := TX3) (N := 17) (ci := 3) rfl 15 (by decide) mF_X3_186 (by decide) (mw_0 _ _ _) rfl dX3_doesStep_80 rfl ?_
        refine j_aload_n h (q := 84) 0 dX3_doesStep_83 rfl rfl ?_
        refine j_get h (q := 87) inX3 (C := RX3) (T := TX3) (N := 17) (ci := 3) rfl 16 (by decide) mF_X3_192 (by decide) (mw_0 _ _ _) rfl dX3_doesStep_84 rfl ?_
        rw [hfi, hse]
        refine j_cV h (q := 90) (C := RX3) (T := TX3) (N := 17) (ci := 3) mo_X3_whyNoMove mI_X3_whyNoMove mV_X3_whyNoMove mL_X3_136 (m_why2 g w M γ R G v1 v2) (by decide) (by decide) (mw_0 _ _ _) rfl rfl rfl (Nat.le_of_ble_eq_true rfl) dX3_doesStep_87 rfl ?_
        rintro _ w87 ⟨x87, rfl, e⟩
        obtain ⟨rfl, sz, tp, rfl, L2⟩ := e
        rw [hk]
        refine j_if_ne h (tgt := 97) (q := 93) dX3_doesStep_90 rfl (by decide) (fun c_90 => ?_) (fun c_90 => ?_)
        rotate_left
        · exact absurd (show _ = (0 : Int32) from c_90) (by decide)
        refine j_iconst h (q := 98) (0) dX3_doesStep_97 rfl (by decide) ?_
        refine j_istore_n h (q := 99) (loc' := [(1, _), (0, _)]) dX3_doesStep_98 rfl (by decide) rfl ?_
        refine j_iload_n h (q := 100) 0 dX3_doesStep_99 rfl rfl ?_
        refine j_if_eq h (tgt := 116) (q := 103) dX3_doesStep_100 rfl (by decide) (fun c_100 => ?_) (fun c_100 => ?_)
        rotate_left
        · exact absurd rfl c_100
        refine j_iload_n h (q := 117) 0 dX3_doesStep_116 rfl rfl ?_
        refine j_zret h rfl (by first | rfl | decide) dX3_doesStep_117 ?_
        exact ⟨_, rfl, by rw [hs]; rfl, _, rfl, ⟨rfl, rfl, rfl, rfl, rfl, rfl, rfl⟩, rfl, by rw [hs]; exact R⟩
      | true =>
        have hs : stepG L ch γ i = some (moveG γ (tval L ch i) (tval L ch (tend L ch i + 1))) := by unfold stepG; rw [if_neg h100, if_neg h102, hk]; rfl
        refine j_aload_n h (q := 1) 0 dX3_doesStep_0 rfl rfl ?_
        refine j_get h (q := 4) inX3 (C := RX3) (T := TX3) (N := 17) (ci := 3) rfl 14 (by decide) mF_X3_180 (by decide) (mw_0 _ _ _) rfl dX3_doesStep_1 rfl ?_
        refine j_bipush h (q := 6) (100) dX3_doesStep_4 rfl (by decide) ?_
        refine j_icmp_ne h (tgt := 37) (q := 9) dX3_doesStep_6 rfl (by decide) (fun c_6 => ?_) (fun c_6 => ?_)
        rotate_left
        · exact absurd ((ct_eq P (k := 100) (by decide) (by decide)).mp (hl.symm.trans c_6)) h100
        refine j_aload_n h (q := 38) 0 dX3_doesStep_37 rfl rfl ?_
        refine j_get h (q := 41) inX3 (C := RX3) (T := TX3) (N := 17) (ci := 3) rfl 14 (by decide) mF_X3_180 (by decide) (mw_0 _ _ _) rfl dX3_doesStep_38 rfl ?_
        refine j_bipush h (q := 43) (102) dX3_doesStep_41 rfl (by decide) ?_
        refine j_icmp_ne h (tgt := 78) (q := 46) dX3_doesStep_43 rfl (by decide) (fun c_43 => ?_) (fun c_43 => ?_)
        rotate_left
        · exact absurd ((ct_eq P (k := 102) (by decide) (by decide)).mp (hl.symm.trans c_43)) h102
        refine j_aload_n h (q := 79) 0 dX3_doesStep_78 rfl rfl ?_
        refine j_aload_n h (q := 80) 0 dX3_doesStep_79 rfl rfl ?_
        refine j_get h (q := 83) inX3 (C := RX3) (T := TX3) (N := 17) (ci := 3) rfl 15 (by decide) mF_X3_186 (by decide) (mw_0 _ _ _) rfl dX3_doesStep_80 rfl ?_
        refine j_aload_n h (q := 84) 0 dX3_doesStep_83 rfl rfl ?_
        refine j_get h (q := 87) inX3 (C := RX3) (T := TX3) (N := 17) (ci := 3) rfl 16 (by decide) mF_X3_192 (by decide) (mw_0 _ _ _) rfl dX3_doesStep_84 rfl ?_
        rw [hfi, hse]
        refine j_cV h (q := 90) (C := RX3) (T := TX3) (N := 17) (ci := 3) mo_X3_whyNoMove mI_X3_whyNoMove mV_X3_whyNoMove mL_X3_136 (m_why2 g w M γ R G v1 v2) (by decide) (by decide) (mw_0 _ _ _) rfl rfl rfl (Nat.le_of_ble_eq_true rfl) dX3_doesStep_87 rfl ?_
        rintro _ w87 ⟨x87, rfl, e⟩
        obtain ⟨rfl, sz, tp, rfl, L2⟩ := e
        rw [hk]
        refine j_if_ne h (tgt := 97) (q := 93) dX3_doesStep_90 rfl (by decide) (fun c_90 => ?_) (fun c_90 => ?_)
        · exact absurd rfl c_90
        refine j_iconst h (q := 94) (1) dX3_doesStep_93 rfl (by decide) ?_
        refine j_goto h (tgt := 98) dX3_doesStep_94 (by decide) ?_
        refine j_istore_n h (q := 99) (loc' := [(1, _), (0, _)]) dX3_doesStep_98 rfl (by decide) rfl ?_
        refine j_iload_n h (q := 100) 0 dX3_doesStep_99 rfl rfl ?_
        refine j_if_eq h (tgt := 116) (q := 103) dX3_doesStep_100 rfl (by decide) (fun c_100 => ?_) (fun c_100 => ?_)
        · exact absurd (show _ = (0 : Int32) from c_100) (by decide)
        refine j_aload_n h (q := 104) 1 dX3_doesStep_103 rfl rfl ?_
        refine j_aload_n h (q := 105) 1 dX3_doesStep_104 rfl rfl ?_
        refine j_get h (q := 108) inX3 (C := RX3) (T := TX3) (N := 17) (ci := 3) rfl 15 (by decide) mF_X3_186 (by decide) (mw_0 _ _ _) rfl dX3_doesStep_105 rfl ?_
        refine j_aload_n h (q := 109) 1 dX3_doesStep_108 rfl rfl ?_
        refine j_get h (q := 112) inX3 (C := RX3) (T := TX3) (N := 17) (ci := 3) rfl 16 (by decide) mF_X3_192 (by decide) (mw_0 _ _ _) rfl dX3_doesStep_109 rfl ?_
        rw [show Mfi (stp (ssz M sz) tp) = nI (tval L ch i) from hfi, show Mse (stp (ssz M sz) tp) = nI (tval L ch (tend L ch i + 1)) from hse]
        refine j_cV h (q := 115) (C := RX3) (T := TX3) (N := 17) (ci := 3) mo_X3_doesMove mI_X3_doesMove mV_X3_doesMove mL_X3_124 (m_doesMove g w (stp (ssz M sz) tp) γ R G L2 rfl rfl v1 v2 hk) (by decide) (by decide) (mw_0 _ _ _) rfl rfl rfl (Nat.le_of_ble_eq_true rfl) dX3_doesStep_112 rfl ?_
        rintro _ w112 ⟨x112, rfl, e⟩
        obtain ⟨rfl, st2, sz2, tp2, rfl, R2, -⟩ := e
        refine j_pop h (q := 116) dX3_doesStep_115 rfl rfl ?_
        refine j_iload_n h (q := 117) 0 dX3_doesStep_116 rfl rfl ?_
        refine j_zret h rfl (by first | rfl | decide) dX3_doesStep_117 ?_
        exact ⟨_, rfl, by rw [hs]; rfl, _, rfl, ⟨rfl, rfl, rfl, rfl, rfl, rfl, rfl⟩, rfl, by rw [hs]; exact R2⟩

set_option maxRecDepth 100000 in
set_option maxHeartbeats 4000000 in
theorem lp_allM (g : jG) (w : jW) (M0 : Ms) {K : jK} {Φ : Option Value → jW → Prop} (h : jH g K RX3 cX3_playAll 3 (some (.int))) {L : Nat} {ch : Nat → Nat} : ∀ k i γ M dn, MD M L ch → ((∃ a, Mat M = nI a ∧ L ≤ a ∧ a < 1000 ∧ L ≤ i) ∨ (vtG L ch k i ∧ Mat M = nI i)) → MR (Mst M) γ → GI γ → KE M0 M → (∀ M' l, KE M0 M' → MR (Mst M') (allG L ch k γ i).1 → J g 7 K 3 Φ 72 ((0, .ref (gr g 67)) :: (1, .int (nI (dn + (allG L ch k γ i).2))) :: l) [] (mw g w M')) → J g 7 K 3 Φ 25 [(2, .int 1), (1, .int (nI dn)), (0, .ref (gr g 67))] [] (mw g w M) := by
  intro k
  induction k with
  | zero =>
    intro i γ M dn P ha R G hK kk
    rcases ha with ⟨a, ha, hLa, ha9, -⟩ | ⟨h1, -⟩
    · have e0 : allG L ch 0 γ i = (γ, 0) := rfl
      rw [e0] at kk
      refine j_iload_n h (q := 26) 0 dX3_playAll_25 rfl rfl ?_
      refine j_if_eq h (tgt := 72) (q := 29) dX3_playAll_26 rfl (by decide) (fun c_26 => ?_) (fun c_26 => ?_)
      · exact absurd (show (1 : Int32) = 0 from c_26) (by decide)
      refine j_aload_n h (q := 30) 2 dX3_playAll_29 rfl rfl ?_
      refine j_get h (q := 33) inX3 (C := RX3) (T := TX3) (N := 17) (ci := 3) rfl 13 (by decide) mF_X3_171 (by decide) (mw_0 _ _ _) rfl dX3_playAll_30 rfl ?_
      refine j_aload_n h (q := 34) 2 dX3_playAll_33 rfl rfl ?_
      refine j_get h (q := 37) inX3 (C := RX3) (T := TX3) (N := 17) (ci := 3) rfl 7 (by decide) mF_X3_163 (by decide) (mw_0 _ _ _) rfl dX3_playAll_34 rfl ?_
      refine j_icmp_ge h (tgt := 72) (q := 40) dX3_playAll_37 rfl (by decide) (fun c_37 => ?_) (fun c_37 => ?_)
      rotate_left
      · rw [ha, P.1, nI_leS (by omega) (by omega)] at c_37; omega
      refine j_sub [2, 1] rfl ?_
      exact kk M [] hK R
    · exact h1.elim
  | succ k ih =>
    intro i γ M dn P ha R G hK kk
    rcases ha with ⟨a, ha, hLa, ha9, hLi⟩ | ⟨h1, ha⟩
    · have e0 : allG L ch (k + 1) γ i = (γ, 0) := if_neg (by omega)
      rw [e0] at kk
      refine j_iload_n h (q := 26) 0 dX3_playAll_25 rfl rfl ?_
      refine j_if_eq h (tgt := 72) (q := 29) dX3_playAll_26 rfl (by decide) (fun c_26 => ?_) (fun c_26 => ?_)
      · exact absurd (show (1 : Int32) = 0 from c_26) (by decide)
      refine j_aload_n h (q := 30) 2 dX3_playAll_29 rfl rfl ?_
      refine j_get h (q := 33) inX3 (C := RX3) (T := TX3) (N := 17) (ci := 3) rfl 13 (by decide) mF_X3_171 (by decide) (mw_0 _ _ _) rfl dX3_playAll_30 rfl ?_
      refine j_aload_n h (q := 34) 2 dX3_playAll_33 rfl rfl ?_
      refine j_get h (q := 37) inX3 (C := RX3) (T := TX3) (N := 17) (ci := 3) rfl 7 (by decide) mF_X3_163 (by decide) (mw_0 _ _ _) rfl dX3_playAll_34 rfl ?_
      refine j_icmp_ge h (tgt := 72) (q := 40) dX3_playAll_37 rfl (by decide) (fun c_37 => ?_) (fun c_37 => ?_)
      rotate_left
      · rw [ha, P.1, nI_leS (by omega) (by omega)] at c_37; omega
      refine j_sub [2, 1] rfl ?_
      exact kk M [] hK R
    · have hlt := vt_lt h1
      have hL := P.2.1
      have hr := h1.1
      obtain ⟨hg1, hg2⟩ := rs_gt hr
      have e0 : allG L ch (k + 1) γ i = (match stepG L ch γ i with
        | none => (γ, 0)
        | some γ' => ((allG L ch k γ' ((rsG L ch i).2 + 1)).1, (allG L ch k γ' ((rsG L ch i).2 + 1)).2 + 1)) := if_pos hlt
      have en : ∃ a, (if tx L ch (rsG L ch i).2 = 44 then (rsG L ch i).2 + 1 else (rsG L ch i).2) = a ∧ a < 1000 ∧ ((L ≤ a ∧ L ≤ (rsG L ch i).2 + 1 ∧ (rsG L ch i).2 = L) ∨ (vtG L ch k ((rsG L ch i).2 + 1) ∧ a = (rsG L ch i).2 + 1)) := by
        rcases h1.2 with z | ⟨z1, z2, z3⟩
        · refine ⟨(rsG L ch i).2, if_neg (by rw [z, tx_L]; decide), by omega, Or.inl ⟨by omega, by omega, z⟩⟩
        · exact ⟨(rsG L ch i).2 + 1, if_pos z2, by omega, Or.inr ⟨z3, rfl⟩⟩
      obtain ⟨a, hea, ha9, hcase⟩ := en
      cases hst : stepG L ch γ i with
      | none =>
        rw [hst] at e0
        rw [e0] at kk
        refine j_iload_n h (q := 26) 0 dX3_playAll_25 rfl rfl ?_
        refine j_if_eq h (tgt := 72) (q := 29) dX3_playAll_26 rfl (by decide) (fun c_26 => ?_) (fun c_26 => ?_)
        · exact absurd (show (1 : Int32) = 0 from c_26) (by decide)
        refine j_aload_n h (q := 30) 2 dX3_playAll_29 rfl rfl ?_
        refine j_get h (q := 33) inX3 (C := RX3) (T := TX3) (N := 17) (ci := 3) rfl 13 (by decide) mF_X3_171 (by decide) (mw_0 _ _ _) rfl dX3_playAll_30 rfl ?_
        refine j_aload_n h (q := 34) 2 dX3_playAll_33 rfl rfl ?_
        refine j_get h (q := 37) inX3 (C := RX3) (T := TX3) (N := 17) (ci := 3) rfl 7 (by decide) mF_X3_163 (by decide) (mw_0 _ _ _) rfl dX3_playAll_34 rfl ?_
        refine j_icmp_ge h (tgt := 72) (q := 40) dX3_playAll_37 rfl (by decide) (fun c_37 => ?_) (fun c_37 => ?_)
        · rw [ha, P.1, nI_leS (by omega) (by omega)] at c_37; omega
        refine j_aload_n h (q := 41) 2 dX3_playAll_40 rfl rfl ?_
        refine j_cV h (q := 44) (C := RX3) (T := TX3) (N := 17) (ci := 3) mo_X3_readsStep mI_X3_readsStep mV_X3_readsStep mL_X3_195 (m_readsStep g w M P ha (by omega)) (by decide) (by decide) (mw_0 _ _ _) rfl rfl rfl (Nat.le_of_ble_eq_true rfl) dX3_playAll_41 rfl ?_
        rintro _ w41 ⟨x41, rfl, e⟩
        obtain ⟨rfl, fi, se, rfl, hfs⟩ := e
        refine j_pop h (q := 45) dX3_playAll_44 rfl rfl ?_
        refine j_aload_n h (q := 46) 2 dX3_playAll_45 rfl rfl ?_
        refine j_bipush h (q := 48) (44) dX3_playAll_46 rfl (by decide) ?_
        refine j_cV h (q := 51) (C := RX3) (T := TX3) (N := 17) (ci := 3) mo_X3_isNext mI_X3_isNext mV_X3_isNext mL_X3_183 (m_isNext g w (rsM M (nI (rsG L ch i).2) (ctI L ch i) fi se) P (i := (rsG L ch i).2) rfl (by omega) (k := 44) (by decide) (by decide)) (by decide) (by decide) (mw_0 _ _ _) rfl rfl rfl (Nat.le_of_ble_eq_true rfl) dX3_playAll_48 rfl ?_
        rintro _ w48 ⟨x48, rfl, e⟩
        obtain ⟨rfl, rfl⟩ := e
        rw [hea]
        refine j_pop h (q := 52) dX3_playAll_51 rfl rfl ?_
        refine j_aload_n h (q := 53) 2 dX3_playAll_52 rfl rfl ?_
        refine j_cV h (q := 56) (C := RX3) (T := TX3) (N := 17) (ci := 3) mo_X3_doesStep mI_X3_doesStep mV_X3_doesStep mL_X3_202 (m_doesStep g w (mat (rsM M (nI (rsG L ch i).2) (ctI L ch i) fi se) (nI a)) P γ R G hr rfl (hfs hr)) (by decide) (by decide) (mw_0 _ _ _) rfl rfl rfl (Nat.le_of_ble_eq_true rfl) dX3_playAll_53 rfl ?_
        rintro _ w53 ⟨x53, rfl, e⟩
        obtain ⟨rfl, M2, rfl, k2, a2, R2⟩ := e
        rw [hst] at R2 ⊢
        refine j_istore_n h (q := 57) (loc' := [(2, _), (1, _), (0, _)]) dX3_playAll_56 rfl (by decide) rfl ?_
        refine j_iload_n h (q := 58) 1 dX3_playAll_57 rfl rfl ?_
        refine j_iload_n h (q := 59) 0 dX3_playAll_58 rfl rfl ?_
        refine j_if_eq h (tgt := 66) (q := 62) dX3_playAll_59 rfl (by decide) (fun c_59 => ?_) (fun c_59 => ?_)
        rotate_left
        · exact absurd rfl c_59
        refine j_iconst h (q := 67) (0) dX3_playAll_66 rfl (by decide) ?_
        refine j_iadd h (q := 68) dX3_playAll_67 rfl ?_
        refine j_istore_n h (q := 69) (loc' := [(1, _), (2, _), (0, _)]) dX3_playAll_68 rfl (by decide) rfl ?_
        refine j_goto h (tgt := 25) dX3_playAll_69 (by decide) ?_
        rw [show nI dn + 0 = nI dn from i_addL dn 0]
        refine j_sub [1, 0, 2] rfl ?_
        refine j_iload_n h (q := 26) 0 dX3_playAll_25 rfl rfl ?_
        refine j_if_eq h (tgt := 72) (q := 29) dX3_playAll_26 rfl (by decide) (fun c_26 => ?_) (fun c_26 => ?_)
        rotate_left
        · exact absurd rfl c_26
        refine j_sub [2, 1] rfl ?_
        exact kk M2 [] (KE_t hK k2) R2
      | some γ' =>
        rw [hst] at e0
        rw [e0] at kk
        have G2 := GI_step G hr hst
        refine j_iload_n h (q := 26) 0 dX3_playAll_25 rfl rfl ?_
        refine j_if_eq h (tgt := 72) (q := 29) dX3_playAll_26 rfl (by decide) (fun c_26 => ?_) (fun c_26 => ?_)
        · exact absurd (show (1 : Int32) = 0 from c_26) (by decide)
        refine j_aload_n h (q := 30) 2 dX3_playAll_29 rfl rfl ?_
        refine j_get h (q := 33) inX3 (C := RX3) (T := TX3) (N := 17) (ci := 3) rfl 13 (by decide) mF_X3_171 (by decide) (mw_0 _ _ _) rfl dX3_playAll_30 rfl ?_
        refine j_aload_n h (q := 34) 2 dX3_playAll_33 rfl rfl ?_
        refine j_get h (q := 37) inX3 (C := RX3) (T := TX3) (N := 17) (ci := 3) rfl 7 (by decide) mF_X3_163 (by decide) (mw_0 _ _ _) rfl dX3_playAll_34 rfl ?_
        refine j_icmp_ge h (tgt := 72) (q := 40) dX3_playAll_37 rfl (by decide) (fun c_37 => ?_) (fun c_37 => ?_)
        · rw [ha, P.1, nI_leS (by omega) (by omega)] at c_37; omega
        refine j_aload_n h (q := 41) 2 dX3_playAll_40 rfl rfl ?_
        refine j_cV h (q := 44) (C := RX3) (T := TX3) (N := 17) (ci := 3) mo_X3_readsStep mI_X3_readsStep mV_X3_readsStep mL_X3_195 (m_readsStep g w M P ha (by omega)) (by decide) (by decide) (mw_0 _ _ _) rfl rfl rfl (Nat.le_of_ble_eq_true rfl) dX3_playAll_41 rfl ?_
        rintro _ w41 ⟨x41, rfl, e⟩
        obtain ⟨rfl, fi, se, rfl, hfs⟩ := e
        refine j_pop h (q := 45) dX3_playAll_44 rfl rfl ?_
        refine j_aload_n h (q := 46) 2 dX3_playAll_45 rfl rfl ?_
        refine j_bipush h (q := 48) (44) dX3_playAll_46 rfl (by decide) ?_
        refine j_cV h (q := 51) (C := RX3) (T := TX3) (N := 17) (ci := 3) mo_X3_isNext mI_X3_isNext mV_X3_isNext mL_X3_183 (m_isNext g w (rsM M (nI (rsG L ch i).2) (ctI L ch i) fi se) P (i := (rsG L ch i).2) rfl (by omega) (k := 44) (by decide) (by decide)) (by decide) (by decide) (mw_0 _ _ _) rfl rfl rfl (Nat.le_of_ble_eq_true rfl) dX3_playAll_48 rfl ?_
        rintro _ w48 ⟨x48, rfl, e⟩
        obtain ⟨rfl, rfl⟩ := e
        rw [hea]
        refine j_pop h (q := 52) dX3_playAll_51 rfl rfl ?_
        refine j_aload_n h (q := 53) 2 dX3_playAll_52 rfl rfl ?_
        refine j_cV h (q := 56) (C := RX3) (T := TX3) (N := 17) (ci := 3) mo_X3_doesStep mI_X3_doesStep mV_X3_doesStep mL_X3_202 (m_doesStep g w (mat (rsM M (nI (rsG L ch i).2) (ctI L ch i) fi se) (nI a)) P γ R G hr rfl (hfs hr)) (by decide) (by decide) (mw_0 _ _ _) rfl rfl rfl (Nat.le_of_ble_eq_true rfl) dX3_playAll_53 rfl ?_
        rintro _ w53 ⟨x53, rfl, e⟩
        obtain ⟨rfl, M2, rfl, k2, a2, R2⟩ := e
        rw [hst] at R2 ⊢
        refine j_istore_n h (q := 57) (loc' := [(2, _), (1, _), (0, _)]) dX3_playAll_56 rfl (by decide) rfl ?_
        refine j_iload_n h (q := 58) 1 dX3_playAll_57 rfl rfl ?_
        refine j_iload_n h (q := 59) 0 dX3_playAll_58 rfl rfl ?_
        refine j_if_eq h (tgt := 66) (q := 62) dX3_playAll_59 rfl (by decide) (fun c_59 => ?_) (fun c_59 => ?_)
        · exact absurd (show (1 : Int32) = 0 from c_59) (by decide)
        refine j_iconst h (q := 63) (1) dX3_playAll_62 rfl (by decide) ?_
        refine j_goto h (tgt := 67) dX3_playAll_63 (by decide) ?_
        refine j_iadd h (q := 68) dX3_playAll_67 rfl ?_
        refine j_istore_n h (q := 69) (loc' := [(1, _), (2, _), (0, _)]) dX3_playAll_68 rfl (by decide) rfl ?_
        refine j_goto h (tgt := 25) dX3_playAll_69 (by decide) ?_
        rw [i_addL]
        refine j_sub [1, 0, 2] rfl ?_
        refine ih ((rsG L ch i).2 + 1) γ' M2 (dn + 1) (MD_ke P k2) ?_ R2 G2 (KE_t hK k2) (fun M' l h5 h6 => ?_)
        · rcases hcase with ⟨z1, z2, z3⟩ | ⟨z1, z2⟩
          · exact Or.inl ⟨a, a2, z1, ha9, z2⟩
          · exact Or.inr ⟨z1, by rw [a2, z2]⟩
        · have q := kk M' l h5 h6
          rw [show dn + ((allG L ch k γ' ((rsG L ch i).2 + 1)).2 + 1) = dn + 1 + (allG L ch k γ' ((rsG L ch i).2 + 1)).2 by omega] at q
          exact q

set_option maxRecDepth 100000 in
set_option maxHeartbeats 4000000 in
theorem M_playAll (g : jG) (w : jW) (M : Ms) (σ : Sg) (S : SI σ) (R : MX M σ)  : ConI g 7 yX3_playAll cX3_playAll 3 (some (.int)) [.ref (gr g 67)] (mw g w M) (fun x w' => x = (spAll σ).1 ∧ ∃ M', w' = mw g w M' ∧ MX M' (spAll σ).2) := by
  refine con_of (by decide +kernel) (Nat.le_of_ble_eq_true rfl) [(0, _)] rfl (fun K h => ?_)
  have P := MX_MD S R
  cases hf : faultG (zl σ) (zc σ) with
  | some r =>
    have hs : spAll σ = (-3, σ) := if_neg (by rw [hf]; intro z; cases z)
    refine j_aload_n h (q := 1) 0 dX3_playAll_0 rfl rfl ?_
    refine j_cV h (q := 4) (C := RX3) (T := TX3) (N := 17) (ci := 3) mo_X3_findFault mI_X3_findFault mV_X3_findFault mL_X3_199 (m_findFault g w M P) (by decide) (by decide) (mw_0 _ _ _) rfl rfl rfl (Nat.le_of_ble_eq_true rfl) dX3_playAll_1 rfl ?_
    rintro _ w1 ⟨x1, rfl, e⟩
    obtain ⟨rfl, M2, rfl, k1, k2⟩ := e
    rw [hf]
    have R2 := MX_eq R k1 k2
    refine j_bipush h (q := 6) (-6) dX3_playAll_4 rfl (by decide) ?_
    refine j_icmp_eq h (tgt := 12) (q := 9) dX3_playAll_6 rfl (by decide) (fun c_6 => ?_) (fun c_6 => ?_)
    · exact absurd c_6 (nI_ne6 (fault_b S hf))
    refine j_bipush h (q := 11) (-3) dX3_playAll_9 rfl (by decide) ?_
    refine j_iret h rfl dX3_playAll_11 ?_
    exact ⟨_, rfl, by rw [hs], _, rfl, by rw [hs]; exact R2⟩
  | none =>
    have hs : spAll σ = (nI (allG (zl σ) (zc σ) (zl σ + 1) (zg σ) 0).2, wipeG (recG σ (allG (zl σ) (zc σ) (zl σ + 1) (zg σ) 0).1)) := if_pos hf
    refine j_aload_n h (q := 1) 0 dX3_playAll_0 rfl rfl ?_
    refine j_cV h (q := 4) (C := RX3) (T := TX3) (N := 17) (ci := 3) mo_X3_findFault mI_X3_findFault mV_X3_findFault mL_X3_199 (m_findFault g w M P) (by decide) (by decide) (mw_0 _ _ _) rfl rfl rfl (Nat.le_of_ble_eq_true rfl) dX3_playAll_1 rfl ?_
    rintro _ w1 ⟨x1, rfl, e⟩
    obtain ⟨rfl, M2, rfl, k1, k2⟩ := e
    rw [hf]
    have R2 := MX_eq R k1 k2
    refine j_bipush h (q := 6) (-6) dX3_playAll_4 rfl (by decide) ?_
    refine j_icmp_eq h (tgt := 12) (q := 9) dX3_playAll_6 rfl (by decide) (fun c_6 => ?_) (fun c_6 => ?_)
    rotate_left
    · exact absurd rfl c_6
    refine j_aload_n h (q := 13) 0 dX3_playAll_12 rfl rfl ?_
    refine j_cV h (q := 16) (C := RX3) (T := TX3) (N := 17) (ci := 3) mo_X3_record mI_X3_record mV_X3_record mL_X3_130 (m_record g w M2 σ S R2) (by decide) (by decide) (mw_0 _ _ _) rfl rfl rfl (Nat.le_of_ble_eq_true rfl) dX3_playAll_13 rfl ?_
    rintro _ w13 ⟨rfl, e⟩
    obtain ⟨M3, rfl, R3, q1, q2, q3⟩ := e
    have P3 : MD M3 (zl σ) (zc σ) := ⟨R3.2.2.2.2.1, S.2.2.2.2.1, R3.2.2.2.2.2, S.2.2.2.2.2⟩
    refine j_iconst h (q := 17) (0) dX3_playAll_16 rfl (by decide) ?_
    refine j_istore_n h (q := 18) (loc' := [(1, _), (0, _)]) dX3_playAll_17 rfl (by decide) rfl ?_
    refine j_aload_n h (q := 19) 1 dX3_playAll_18 rfl rfl ?_
    refine j_iconst h (q := 20) (0) dX3_playAll_19 rfl (by decide) ?_
    refine j_put h (q := 23) inX3 (C := RX3) (T := TX3) (N := 17) (ci := 3) rfl tyX3_ok nmX3 13 (by decide) mF_X3_171 rfl rfl rfl (by first | rfl | decide) (by decide) (mw_0 _ _ _) (Nat.le_of_ble_eq_true rfl) dX3_playAll_20 rfl ?_
    refine j_stk rfl mw_u0 ?_
    refine j_iconst h (q := 24) (1) dX3_playAll_23 rfl (by decide) ?_
    refine j_istore_n h (q := 25) (loc' := [(2, _), (1, _), (0, _)]) dX3_playAll_24 rfl (by decide) rfl ?_
    refine j_sub [0, 1, 2] rfl ?_
    refine lp_allM g w M3 h (zl σ + 1) 0 (zg σ) (mat M3 0) 0 P3 (Or.inr ⟨ff_vt hf, rfl⟩) R3.1 S.1 ⟨rfl, rfl, rfl, rfl, rfl, rfl, rfl⟩ (fun M' l h8 h9 => ?_)
    rw [Nat.zero_add]
    refine j_aload_n h (q := 73) 0 dX3_playAll_72 rfl rfl ?_
    refine j_iconst h (q := 74) (0) dX3_playAll_73 rfl (by decide) ?_
    refine j_put h (q := 77) inX3 (C := RX3) (T := TX3) (N := 17) (ci := 3) rfl tyX3_ok nmX3 7 (by decide) mF_X3_163 rfl rfl rfl (by first | rfl | decide) (by decide) (mw_0 _ _ _) (Nat.le_of_ble_eq_true rfl) dX3_playAll_74 rfl ?_
    refine j_stk rfl mw_u0 ?_
    refine j_iload_n h (q := 78) 1 dX3_playAll_77 rfl rfl ?_
    refine j_iret h rfl dX3_playAll_78 ?_
    refine ⟨_, rfl, by rw [hs], _, rfl, by rw [hs]; exact MX_wipe (MX_go R3 h8 h9)⟩
