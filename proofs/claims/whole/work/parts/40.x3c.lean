set_option maxRecDepth 100000 in
set_option maxHeartbeats 4000000 in
theorem m_isMove (g : jG) (w : jW) (M : Ms) (γ : Gm) (R : MR (Mst M) γ) (G : GI γ) (L : LK M γ) {a b : Int32} {f u : Nat} (ha : a = nI f) (hb : b = nI u) (hf : f < 22) (hu : u < 22)  : ConI g 4 yX3_isMove cX3_isMove 4 (some (.boolean)) [.ref (gr g 67), .int a, .int b] (mw g w M) (fun x w' => x = b2i (okG γ f u) ∧ w' = mw g w M) := by
  refine con_of (by decide +kernel) (Nat.le_of_ble_eq_true rfl) [(0, _), (1, _), (2, _)] rfl (fun K h => ?_)
  subst ha; subst hb
  refine j_aload_n h (q := 1) 0 dX3_isMove_0 rfl rfl ?_
  refine j_get h (q := 4) inX3 (C := RX3) (T := TX3) (N := 17) (ci := 3) rfl 0 (by decide) mF_X3_7 (by decide) (mw_0 _ _ _) rfl dX3_isMove_1 rfl ?_
  refine j_sipush h (q := 7) (221) dX3_isMove_4 rfl (by decide) ?_
  refine j_ldn h (q := 8) (221) (by decide) (mw_st _ _ _) rfl (by decide) (by decide) dX3_isMove_7 rfl ?_
  rw [M_ov R]
  refine j_iconst h (q := 9) (1) dX3_isMove_8 rfl (by decide) ?_
  refine j_icmp_eq h (tgt := 31) (q := 12) dX3_isMove_9 rfl (by decide) (fun c_9 => ?_) (fun c_9 => ?_)
  · have ho : qo γ = true := by cases z : qo γ; rw [z] at c_9; exact absurd (show b2i false = 1 from c_9) (by decide); rfl
    refine j_iconst h (q := 32) (0) dX3_isMove_31 rfl (by decide) ?_
    refine j_zret h rfl (by first | rfl | exact b2i_n _) dX3_isMove_32 ?_
    unfold okG
    first
      | exact ⟨_, rfl, b2i_f (by rw [give_e, ho]; rfl), rfl⟩
      | exact ⟨_, rfl, b2i_f (by rw [give_e, c_17, Bool.and_false, Bool.and_false]; rfl), rfl⟩
      | exact ⟨_, rfl, b2i_f (by rw [give_e, decide_eq_false (show ¬ 0 < qn γ f by omega)]; simp), rfl⟩
      | exact ⟨_, rfl, by rw [hg, mayTake_A (by omega)]; rfl, rfl⟩
      | exact ⟨_, rfl, by rw [hg, take_H c_59]; rfl, rfl⟩
      | exact ⟨_, rfl, b2i_t (by rw [hg, mayTake_0 c_59 c_43, c_91, show (u == 3 - qt γ) = true by rw [beq_iff_eq]; exact c_82]; rfl), rfl⟩
      | exact ⟨_, rfl, b2i_f (by rw [hg, mayTake_0 c_59 c_43, c_91]; simp), rfl⟩
      | exact ⟨_, rfl, b2i_f (by rw [hg, mayTake_0 c_59 c_43, show (u == 3 - qt γ) = false by rw [beq_eq_false_iff_ne]; exact c_82]; rfl), rfl⟩
  · have ho : qo γ = false := by cases z : qo γ; rfl; rw [z] at c_9; exact absurd rfl c_9
    refine j_aload_n h (q := 13) 0 dX3_isMove_12 rfl rfl ?_
    refine j_iload_n h (q := 14) 1 dX3_isMove_13 rfl rfl ?_
    refine j_cV h (q := 17) (C := RX3) (T := TX3) (N := 17) (ci := 3) mo_X3_canLeave mI_X3_canLeave mV_X3_canLeave mL_X3_85 (m_canLeave g _ _ _ R G L rfl hf) (by decide) (by decide) (mw_0 _ _ _) rfl rfl rfl (Nat.le_of_ble_eq_true rfl) dX3_isMove_14 rfl ?_
    rintro _ w14 ⟨x14, rfl, e⟩
    obtain ⟨rfl, rfl⟩ := e
    refine j_if_eq h (tgt := 31) (q := 20) dX3_isMove_17 rfl (by decide) (fun c_17 => ?_) (fun c_17 => ?_)
    · rw [b2i_0] at c_17
      refine j_iconst h (q := 32) (0) dX3_isMove_31 rfl (by decide) ?_
      refine j_zret h rfl (by first | rfl | exact b2i_n _) dX3_isMove_32 ?_
      unfold okG
      first
        | exact ⟨_, rfl, b2i_f (by rw [give_e, ho]; rfl), rfl⟩
        | exact ⟨_, rfl, b2i_f (by rw [give_e, c_17, Bool.and_false, Bool.and_false]; rfl), rfl⟩
        | exact ⟨_, rfl, b2i_f (by rw [give_e, decide_eq_false (show ¬ 0 < qn γ f by omega)]; simp), rfl⟩
        | exact ⟨_, rfl, by rw [hg, mayTake_A (by omega)]; rfl, rfl⟩
        | exact ⟨_, rfl, by rw [hg, take_H c_59]; rfl, rfl⟩
        | exact ⟨_, rfl, b2i_t (by rw [hg, mayTake_0 c_59 c_43, c_91, show (u == 3 - qt γ) = true by rw [beq_iff_eq]; exact c_82]; rfl), rfl⟩
        | exact ⟨_, rfl, b2i_f (by rw [hg, mayTake_0 c_59 c_43, c_91]; simp), rfl⟩
        | exact ⟨_, rfl, b2i_f (by rw [hg, mayTake_0 c_59 c_43, show (u == 3 - qt γ) = false by rw [beq_eq_false_iff_ne]; exact c_82]; rfl), rfl⟩
    · rw [b2i_1] at c_17
      refine j_aload_n h (q := 21) 0 dX3_isMove_20 rfl rfl ?_
      refine j_get h (q := 24) inX3 (C := RX3) (T := TX3) (N := 17) (ci := 3) rfl 9 (by decide) mF_X3_31 (by decide) (mw_0 _ _ _) rfl dX3_isMove_21 rfl ?_
      refine j_iload_n h (q := 25) 1 dX3_isMove_24 rfl rfl ?_
      refine j_ldn h (q := 26) (f) (by decide) (mw_tp _ _ _) rfl hf (by decide) dX3_isMove_25 rfl ?_
      rw [(L f hf).2]
      refine j_bipush h (q := 28) (-6) dX3_isMove_26 rfl (by decide) ?_
      refine j_icmp_ne h (tgt := 33) (q := 31) dX3_isMove_28 rfl (by decide) (fun c_28 => ?_) (fun c_28 => ?_)
      · have hn0 : 0 < qn γ f := by rcases Nat.eq_zero_or_pos (qn γ f) with z | z; exact absurd (by rw [topO_0 z]; rfl) c_28; exact z
        have hkk := G_k G hf hn0
        have hg : mayGiveG γ f = true := by rw [give_e, ho, decide_eq_true hn0, c_17]; rfl
        refine j_aload_n h (q := 34) 0 dX3_isMove_33 rfl rfl ?_
        refine j_get h (q := 37) inX3 (C := RX3) (T := TX3) (N := 17) (ci := 3) rfl 9 (by decide) mF_X3_31 (by decide) (mw_0 _ _ _) rfl dX3_isMove_34 rfl ?_
        refine j_iload_n h (q := 38) 1 dX3_isMove_37 rfl rfl ?_
        refine j_ldn h (q := 39) (f) (by decide) (mw_tp _ _ _) rfl hf (by decide) dX3_isMove_38 rfl ?_
        rw [(L f hf).2, topO_k hn0]
        refine j_istore_n h (q := 40) (loc' := [(3, _), (0, _), (1, _), (2, _)]) dX3_isMove_39 rfl (by decide) rfl ?_
        refine j_iload_n h (q := 41) 3 dX3_isMove_40 rfl rfl ?_
        refine j_bipush h (q := 43) (14) dX3_isMove_41 rfl (by decide) ?_
        refine j_icmp_lt h (tgt := 55) (q := 46) dX3_isMove_43 rfl (by decide) (fun c_43 => ?_) (fun c_43 => ?_)
        · rw [i_ltL (by omega) (by decide)] at c_43
          refine j_iload_n h (q := 56) 3 dX3_isMove_55 rfl rfl ?_
          refine j_cS h (q := 59) mo_X3_isHouse mS_X3_isHouse mL_X3_68 (m_isHouse g _ rfl (by omega)) (by decide) rfl rfl (Nat.le_of_ble_eq_true rfl) dX3_isMove_56 rfl ?_
          rintro _ w56 ⟨x56, rfl, e⟩
          obtain ⟨rfl, rfl⟩ := e
          refine j_if_eq h (tgt := 71) (q := 62) dX3_isMove_59 rfl (by decide) (fun c_59 => ?_) (fun c_59 => ?_)
          · rw [b2i_0] at c_59
            refine j_iload_n h (q := 72) 3 dX3_isMove_71 rfl rfl ?_
            refine j_iconst h (q := 73) (3) dX3_isMove_72 rfl (by decide) ?_
            refine j_aload_n h (q := 74) 1 dX3_isMove_73 rfl rfl ?_
            refine j_get h (q := 77) inX3 (C := RX3) (T := TX3) (N := 17) (ci := 3) rfl 0 (by decide) mF_X3_7 (by decide) (mw_0 _ _ _) rfl dX3_isMove_74 rfl ?_
            refine j_sipush h (q := 80) (220) dX3_isMove_77 rfl (by decide) ?_
            refine j_ldn h (q := 81) (220) (by decide) (mw_st _ _ _) rfl (by decide) (by decide) dX3_isMove_80 rfl ?_
            rw [M_sd R]
            have e2 := G_t G
            refine j_isub h (q := 82) dX3_isMove_81 rfl ?_
            refine j_icmp_ne h (tgt := 98) (q := 85) dX3_isMove_82 rfl (by decide) (fun c_82 => ?_) (fun c_82 => ?_)
            · rw [i_Lsub (by omega), nI_eqS (by omega) (by omega)] at c_82
              refine j_iconst h (q := 99) (0) dX3_isMove_98 rfl (by decide) ?_
              refine j_zret h rfl (by first | rfl | exact b2i_n _) dX3_isMove_99 ?_
              unfold okG
              first
                | exact ⟨_, rfl, b2i_f (by rw [give_e, ho]; rfl), rfl⟩
                | exact ⟨_, rfl, b2i_f (by rw [give_e, c_17, Bool.and_false, Bool.and_false]; rfl), rfl⟩
                | exact ⟨_, rfl, b2i_f (by rw [give_e, decide_eq_false (show ¬ 0 < qn γ f by omega)]; simp), rfl⟩
                | exact ⟨_, rfl, by rw [hg, mayTake_A (by omega)]; rfl, rfl⟩
                | exact ⟨_, rfl, by rw [hg, take_H c_59]; rfl, rfl⟩
                | exact ⟨_, rfl, b2i_t (by rw [hg, mayTake_0 c_59 c_43, c_91, show (u == 3 - qt γ) = true by rw [beq_iff_eq]; exact c_82]; rfl), rfl⟩
                | exact ⟨_, rfl, b2i_f (by rw [hg, mayTake_0 c_59 c_43, c_91]; simp), rfl⟩
                | exact ⟨_, rfl, b2i_f (by rw [hg, mayTake_0 c_59 c_43, show (u == 3 - qt γ) = false by rw [beq_eq_false_iff_ne]; exact c_82]; rfl), rfl⟩
            · rw [i_Lsub (by omega), nI_eqS (by omega) (by omega)] at c_82
              refine j_aload_n h (q := 86) 1 dX3_isMove_85 rfl rfl ?_
              refine j_iload_n h (q := 87) 0 dX3_isMove_86 rfl rfl ?_
              refine j_iload_n h (q := 88) 3 dX3_isMove_87 rfl rfl ?_
              refine j_cV h (q := 91) (C := RX3) (T := TX3) (N := 17) (ci := 3) mo_X3_fitsWaste mI_X3_fitsWaste mV_X3_fitsWaste mL_X3_95 (m_fitsWaste g _ _ _ R G L hkk rfl hu) (by decide) (by decide) (mw_0 _ _ _) rfl rfl rfl (Nat.le_of_ble_eq_true rfl) dX3_isMove_88 rfl ?_
              rintro _ w88 ⟨x88, rfl, e⟩
              obtain ⟨rfl, rfl⟩ := e
              refine j_if_eq h (tgt := 98) (q := 94) dX3_isMove_91 rfl (by decide) (fun c_91 => ?_) (fun c_91 => ?_)
              · rw [b2i_0] at c_91
                refine j_iconst h (q := 99) (0) dX3_isMove_98 rfl (by decide) ?_
                refine j_zret h rfl (by first | rfl | exact b2i_n _) dX3_isMove_99 ?_
                unfold okG
                first
                  | exact ⟨_, rfl, b2i_f (by rw [give_e, ho]; rfl), rfl⟩
                  | exact ⟨_, rfl, b2i_f (by rw [give_e, c_17, Bool.and_false, Bool.and_false]; rfl), rfl⟩
                  | exact ⟨_, rfl, b2i_f (by rw [give_e, decide_eq_false (show ¬ 0 < qn γ f by omega)]; simp), rfl⟩
                  | exact ⟨_, rfl, by rw [hg, mayTake_A (by omega)]; rfl, rfl⟩
                  | exact ⟨_, rfl, by rw [hg, take_H c_59]; rfl, rfl⟩
                  | exact ⟨_, rfl, b2i_t (by rw [hg, mayTake_0 c_59 c_43, c_91, show (u == 3 - qt γ) = true by rw [beq_iff_eq]; exact c_82]; rfl), rfl⟩
                  | exact ⟨_, rfl, b2i_f (by rw [hg, mayTake_0 c_59 c_43, c_91]; simp), rfl⟩
                  | exact ⟨_, rfl, b2i_f (by rw [hg, mayTake_0 c_59 c_43, show (u == 3 - qt γ) = false by rw [beq_eq_false_iff_ne]; exact c_82]; rfl), rfl⟩
              · rw [b2i_1] at c_91
                refine j_iconst h (q := 95) (1) dX3_isMove_94 rfl (by decide) ?_
                refine j_goto h (tgt := 99) dX3_isMove_95 (by decide) ?_
                refine j_zret h rfl (by first | rfl | exact b2i_n _) dX3_isMove_99 ?_
                unfold okG
                first
                  | exact ⟨_, rfl, b2i_f (by rw [give_e, ho]; rfl), rfl⟩
                  | exact ⟨_, rfl, b2i_f (by rw [give_e, c_17, Bool.and_false, Bool.and_false]; rfl), rfl⟩
                  | exact ⟨_, rfl, b2i_f (by rw [give_e, decide_eq_false (show ¬ 0 < qn γ f by omega)]; simp), rfl⟩
                  | exact ⟨_, rfl, by rw [hg, mayTake_A (by omega)]; rfl, rfl⟩
                  | exact ⟨_, rfl, by rw [hg, take_H c_59]; rfl, rfl⟩
                  | exact ⟨_, rfl, b2i_t (by rw [hg, mayTake_0 c_59 c_43, c_91, show (u == 3 - qt γ) = true by rw [beq_iff_eq]; exact c_82]; rfl), rfl⟩
                  | exact ⟨_, rfl, b2i_f (by rw [hg, mayTake_0 c_59 c_43, c_91]; simp), rfl⟩
                  | exact ⟨_, rfl, b2i_f (by rw [hg, mayTake_0 c_59 c_43, show (u == 3 - qt γ) = false by rw [beq_eq_false_iff_ne]; exact c_82]; rfl), rfl⟩
          · rw [b2i_1] at c_59
            refine j_aload_n h (q := 63) 1 dX3_isMove_62 rfl rfl ?_
            refine j_iload_n h (q := 64) 0 dX3_isMove_63 rfl rfl ?_
            refine j_iload_n h (q := 65) 3 dX3_isMove_64 rfl rfl ?_
            refine j_cV h (q := 68) (C := RX3) (T := TX3) (N := 17) (ci := 3) mo_X3_fitsHouse mI_X3_fitsHouse mV_X3_fitsHouse mL_X3_92 (m_fitsHouse g _ _ _ R G L hkk rfl hu) (by decide) (by decide) (mw_0 _ _ _) rfl rfl rfl (Nat.le_of_ble_eq_true rfl) dX3_isMove_65 rfl ?_
            rintro _ w65 ⟨x65, rfl, e⟩
            obtain ⟨rfl, rfl⟩ := e
            refine j_goto h (tgt := 99) dX3_isMove_68 (by decide) ?_
            refine j_zret h rfl (by first | rfl | exact b2i_n _) dX3_isMove_99 ?_
            unfold okG
            first
              | exact ⟨_, rfl, b2i_f (by rw [give_e, ho]; rfl), rfl⟩
              | exact ⟨_, rfl, b2i_f (by rw [give_e, c_17, Bool.and_false, Bool.and_false]; rfl), rfl⟩
              | exact ⟨_, rfl, b2i_f (by rw [give_e, decide_eq_false (show ¬ 0 < qn γ f by omega)]; simp), rfl⟩
              | exact ⟨_, rfl, by rw [hg, mayTake_A (by omega)]; rfl, rfl⟩
              | exact ⟨_, rfl, by rw [hg, take_H c_59]; rfl, rfl⟩
              | exact ⟨_, rfl, b2i_t (by rw [hg, mayTake_0 c_59 c_43, c_91, show (u == 3 - qt γ) = true by rw [beq_iff_eq]; exact c_82]; rfl), rfl⟩
              | exact ⟨_, rfl, b2i_f (by rw [hg, mayTake_0 c_59 c_43, c_91]; simp), rfl⟩
              | exact ⟨_, rfl, b2i_f (by rw [hg, mayTake_0 c_59 c_43, show (u == 3 - qt γ) = false by rw [beq_eq_false_iff_ne]; exact c_82]; rfl), rfl⟩
        · rw [i_ltL (by omega) (by decide)] at c_43
          refine j_aload_n h (q := 47) 1 dX3_isMove_46 rfl rfl ?_
          refine j_iload_n h (q := 48) 0 dX3_isMove_47 rfl rfl ?_
          refine j_iload_n h (q := 49) 3 dX3_isMove_48 rfl rfl ?_
          refine j_cV h (q := 52) (C := RX3) (T := TX3) (N := 17) (ci := 3) mo_X3_fitsAces mI_X3_fitsAces mV_X3_fitsAces mL_X3_88 (m_fitsAces g _ _ _ R G L hkk rfl hu) (by decide) (by decide) (mw_0 _ _ _) rfl rfl rfl (Nat.le_of_ble_eq_true rfl) dX3_isMove_49 rfl ?_
          rintro _ w49 ⟨x49, rfl, e⟩
          obtain ⟨rfl, rfl⟩ := e
          refine j_goto h (tgt := 99) dX3_isMove_52 (by decide) ?_
          refine j_zret h rfl (by first | rfl | exact b2i_n _) dX3_isMove_99 ?_
          unfold okG
          first
            | exact ⟨_, rfl, b2i_f (by rw [give_e, ho]; rfl), rfl⟩
            | exact ⟨_, rfl, b2i_f (by rw [give_e, c_17, Bool.and_false, Bool.and_false]; rfl), rfl⟩
            | exact ⟨_, rfl, b2i_f (by rw [give_e, decide_eq_false (show ¬ 0 < qn γ f by omega)]; simp), rfl⟩
            | exact ⟨_, rfl, by rw [hg, mayTake_A (by omega)]; rfl, rfl⟩
            | exact ⟨_, rfl, by rw [hg, take_H c_59]; rfl, rfl⟩
            | exact ⟨_, rfl, b2i_t (by rw [hg, mayTake_0 c_59 c_43, c_91, show (u == 3 - qt γ) = true by rw [beq_iff_eq]; exact c_82]; rfl), rfl⟩
            | exact ⟨_, rfl, b2i_f (by rw [hg, mayTake_0 c_59 c_43, c_91]; simp), rfl⟩
            | exact ⟨_, rfl, b2i_f (by rw [hg, mayTake_0 c_59 c_43, show (u == 3 - qt γ) = false by rw [beq_eq_false_iff_ne]; exact c_82]; rfl), rfl⟩
      · have hn0 : qn γ f = 0 := topO_n.mp ((ov_n _ (G_o G hf)).mp c_28)
        refine j_iconst h (q := 32) (0) dX3_isMove_31 rfl (by decide) ?_
        refine j_zret h rfl (by first | rfl | exact b2i_n _) dX3_isMove_32 ?_
        unfold okG
        first
          | exact ⟨_, rfl, b2i_f (by rw [give_e, ho]; rfl), rfl⟩
          | exact ⟨_, rfl, b2i_f (by rw [give_e, c_17, Bool.and_false, Bool.and_false]; rfl), rfl⟩
          | exact ⟨_, rfl, b2i_f (by rw [give_e, decide_eq_false (show ¬ 0 < qn γ f by omega)]; simp), rfl⟩
          | exact ⟨_, rfl, by rw [hg, mayTake_A (by omega)]; rfl, rfl⟩
          | exact ⟨_, rfl, by rw [hg, take_H c_59]; rfl, rfl⟩
          | exact ⟨_, rfl, b2i_t (by rw [hg, mayTake_0 c_59 c_43, c_91, show (u == 3 - qt γ) = true by rw [beq_iff_eq]; exact c_82]; rfl), rfl⟩
          | exact ⟨_, rfl, b2i_f (by rw [hg, mayTake_0 c_59 c_43, c_91]; simp), rfl⟩
          | exact ⟨_, rfl, b2i_f (by rw [hg, mayTake_0 c_59 c_43, show (u == 3 - qt γ) = false by rw [beq_eq_false_iff_ne]; exact c_82]; rfl), rfl⟩

set_option maxRecDepth 100000 in
set_option maxHeartbeats 4000000 in
theorem m_pointsFor (g : jG) (w : jW) (M : Ms) (γ : Gm) (R : MR (Mst M) γ) (G : GI γ) (L : LK M γ) {a b : Int32} {f u : Nat} (ha : a = nI f) (hb : b = nI u) (hf : f < 22) (hu : u < 22) (hk : okG γ f u = true)  : ConI g 2 yX3_pointsFor cX3_pointsFor 5 (some (.int)) [.ref (gr g 67), .int a, .int b] (mw g w M) (fun x w' => x = nI (ptsG γ f u) ∧ w' = mw g w M) := by
  refine con_of (by decide +kernel) (Nat.le_of_ble_eq_true rfl) [(0, _), (1, _), (2, _)] rfl (fun K h => ?_)
  subst ha; subst hb
  refine j_iload_n h (q := 1) 1 dX3_pointsFor_0 rfl rfl ?_
  refine j_iconst h (q := 2) (2) dX3_pointsFor_1 rfl (by decide) ?_
  refine j_icmp_ge h (tgt := 9) (q := 5) dX3_pointsFor_2 rfl (by decide) (fun c_2 => ?_) (fun c_2 => ?_)
  · rw [i_Lle (by omega) (by decide)] at c_2
    refine j_iconst h (q := 10) (0) dX3_pointsFor_9 rfl (by decide) ?_
    refine j_istore_n h (q := 11) (loc' := [(3, _), (0, _), (1, _), (2, _)]) dX3_pointsFor_10 rfl (by decide) rfl ?_
    refine j_iload_n h (q := 12) 3 dX3_pointsFor_11 rfl rfl ?_
    refine j_bipush h (q := 14) (14) dX3_pointsFor_12 rfl (by decide) ?_
    refine j_icmp_lt h (tgt := 67) (q := 17) dX3_pointsFor_14 rfl (by decide) (fun c_14 => ?_) (fun c_14 => ?_)
    · rw [i_ltL (by omega) (by decide)] at c_14
      refine j_iload_n h (q := 68) 0 dX3_pointsFor_67 rfl rfl ?_
      refine j_if_eq h (tgt := 75) (q := 71) dX3_pointsFor_68 rfl (by decide) (fun c_68 => ?_) (fun c_68 => ?_)
      rotate_left
      · exact absurd rfl c_68
      refine j_iload_n h (q := 76) 3 dX3_pointsFor_75 rfl rfl ?_
      refine j_cS h (q := 79) mo_X3_isHouse mS_X3_isHouse mL_X3_68 (m_isHouse g _ rfl (by omega)) (by decide) rfl rfl (Nat.le_of_ble_eq_true rfl) dX3_pointsFor_76 rfl ?_
      rintro _ w76 ⟨x76, rfl, e⟩
      obtain ⟨rfl, rfl⟩ := e
      refine j_if_eq h (tgt := 86) (q := 82) dX3_pointsFor_79 rfl (by decide) (fun c_79 => ?_) (fun c_79 => ?_)
      · rw [b2i_0] at c_79
        refine j_iconst h (q := 87) (1) dX3_pointsFor_86 rfl (by decide) ?_
        refine j_iret h rfl dX3_pointsFor_87 ?_
        rw [pts_ref G hk]
        exact ⟨_, rfl, by rw [if_neg (by omega), if_neg (by omega), if_neg (fun z => by rw [c_79] at z; exact absurd z (by decide))]; rfl, rfl⟩
      · rw [b2i_1] at c_79
        refine j_iconst h (q := 83) (0) dX3_pointsFor_82 rfl (by decide) ?_
        refine j_goto h (tgt := 87) dX3_pointsFor_83 (by decide) ?_
        refine j_iret h rfl dX3_pointsFor_87 ?_
        rw [pts_ref G hk]
        exact ⟨_, rfl, by rw [if_neg (by omega), if_neg (by omega), if_pos c_79]; rfl, rfl⟩
    · rw [i_ltL (by omega) (by decide)] at c_14
      refine j_iload_n h (q := 18) 2 dX3_pointsFor_17 rfl rfl ?_
      refine j_cS h (q := 21) mo_X3_isHouse mS_X3_isHouse mL_X3_68 (m_isHouse g _ rfl (by omega)) (by decide) rfl rfl (Nat.le_of_ble_eq_true rfl) dX3_pointsFor_18 rfl ?_
      rintro _ w18 ⟨x18, rfl, e⟩
      obtain ⟨rfl, rfl⟩ := e
      refine j_if_eq h (tgt := 45) (q := 24) dX3_pointsFor_21 rfl (by decide) (fun c_21 => ?_) (fun c_21 => ?_)
      · rw [b2i_0] at c_21
        refine j_iconst h (q := 46) (0) dX3_pointsFor_45 rfl (by decide) ?_
        refine j_istore h (q := 48) (loc' := [(4, _), (3, _), (0, _), (1, _), (2, _)]) dX3_pointsFor_46 rfl (by decide) rfl ?_
        refine j_iload_n h (q := 49) 1 dX3_pointsFor_48 rfl rfl ?_
        refine j_if_eq h (tgt := 56) (q := 52) dX3_pointsFor_49 rfl (by decide) (fun c_49 => ?_) (fun c_49 => ?_)
        rotate_left
        · exact absurd rfl c_49
        refine j_iload h (q := 58) 0 dX3_pointsFor_56 rfl rfl ?_
        refine j_if_eq h (tgt := 65) (q := 61) dX3_pointsFor_58 rfl (by decide) (fun c_58 => ?_) (fun c_58 => ?_)
        rotate_left
        · exact absurd rfl c_58
        refine j_iconst h (q := 66) (1) dX3_pointsFor_65 rfl (by decide) ?_
        refine j_iret h rfl dX3_pointsFor_66 ?_
        rw [pts_ref G hk]
        exact ⟨_, rfl, by rw [if_pos (by omega), if_neg (by omega), if_neg (fun z => by rw [c_21] at z; exact absurd z.1 (by decide))]; rfl, rfl⟩
      · rw [b2i_1] at c_21
        refine j_iload_n h (q := 25) 2 dX3_pointsFor_24 rfl rfl ?_
        refine j_bipush h (q := 27) (6) dX3_pointsFor_25 rfl (by decide) ?_
        refine j_isub h (q := 28) dX3_pointsFor_27 rfl ?_
        refine j_iconst h (q := 29) (4) dX3_pointsFor_28 rfl (by decide) ?_
        have hh := isH_t c_21
        rw [i_subL (by omega)]
        refine j_idiv h (q := 30) dX3_pointsFor_29 rfl (by decide) ?_
        refine j_aload_n h (q := 31) 1 dX3_pointsFor_30 rfl rfl ?_
        refine j_get h (q := 34) inX3 (C := RX3) (T := TX3) (N := 17) (ci := 3) rfl 0 (by decide) mF_X3_7 (by decide) (mw_0 _ _ _) rfl dX3_pointsFor_31 rfl ?_
        refine j_sipush h (q := 37) (220) dX3_pointsFor_34 rfl (by decide) ?_
        refine j_ldn h (q := 38) (220) (by decide) (mw_st _ _ _) rfl (by decide) (by decide) dX3_pointsFor_37 rfl ?_
        rw [M_sd R, show (4 : Int32) = nI 4 from rfl, pk_div (by omega) (by decide) (by decide)]
        have e2 := G_t G
        refine j_icmp_eq h (tgt := 45) (q := 41) dX3_pointsFor_38 rfl (by decide) (fun c_38 => ?_) (fun c_38 => ?_)
        · rw [nI_eqS (by omega) (by omega)] at c_38
          refine j_iconst h (q := 46) (0) dX3_pointsFor_45 rfl (by decide) ?_
          refine j_istore h (q := 48) (loc' := [(4, _), (3, _), (0, _), (1, _), (2, _)]) dX3_pointsFor_46 rfl (by decide) rfl ?_
          refine j_iload_n h (q := 49) 1 dX3_pointsFor_48 rfl rfl ?_
          refine j_if_eq h (tgt := 56) (q := 52) dX3_pointsFor_49 rfl (by decide) (fun c_49 => ?_) (fun c_49 => ?_)
          rotate_left
          · exact absurd rfl c_49
          refine j_iload h (q := 58) 0 dX3_pointsFor_56 rfl rfl ?_
          refine j_if_eq h (tgt := 65) (q := 61) dX3_pointsFor_58 rfl (by decide) (fun c_58 => ?_) (fun c_58 => ?_)
          rotate_left
          · exact absurd rfl c_58
          refine j_iconst h (q := 66) (1) dX3_pointsFor_65 rfl (by decide) ?_
          refine j_iret h rfl dX3_pointsFor_66 ?_
          rw [pts_ref G hk]
          exact ⟨_, rfl, by rw [if_pos (by omega), if_neg (by omega), if_neg (fun z => z.2 c_38)]; rfl, rfl⟩
        · rw [nI_eqS (by omega) (by omega)] at c_38
          refine j_iconst h (q := 42) (1) dX3_pointsFor_41 rfl (by decide) ?_
          refine j_goto h (tgt := 46) dX3_pointsFor_42 (by decide) ?_
          refine j_istore h (q := 48) (loc' := [(4, _), (3, _), (0, _), (1, _), (2, _)]) dX3_pointsFor_46 rfl (by decide) rfl ?_
          refine j_iload_n h (q := 49) 1 dX3_pointsFor_48 rfl rfl ?_
          refine j_if_eq h (tgt := 56) (q := 52) dX3_pointsFor_49 rfl (by decide) (fun c_49 => ?_) (fun c_49 => ?_)
          rotate_left
          · exact absurd rfl c_49
          refine j_iload h (q := 58) 0 dX3_pointsFor_56 rfl rfl ?_
          refine j_if_eq h (tgt := 65) (q := 61) dX3_pointsFor_58 rfl (by decide) (fun c_58 => ?_) (fun c_58 => ?_)
          · exact absurd c_58 (by decide)
          refine j_iconst h (q := 62) (2) dX3_pointsFor_61 rfl (by decide) ?_
          refine j_goto h (tgt := 66) dX3_pointsFor_62 (by decide) ?_
          refine j_iret h rfl dX3_pointsFor_66 ?_
          rw [pts_ref G hk]
          exact ⟨_, rfl, by rw [if_pos (by omega), if_neg (by omega), if_pos ⟨c_21, c_38⟩]; rfl, rfl⟩
  · rw [i_Lle (by omega) (by decide)] at c_2
    refine j_iconst h (q := 6) (1) dX3_pointsFor_5 rfl (by decide) ?_
    refine j_goto h (tgt := 10) dX3_pointsFor_6 (by decide) ?_
    refine j_istore_n h (q := 11) (loc' := [(3, _), (0, _), (1, _), (2, _)]) dX3_pointsFor_10 rfl (by decide) rfl ?_
    refine j_iload_n h (q := 12) 3 dX3_pointsFor_11 rfl rfl ?_
    refine j_bipush h (q := 14) (14) dX3_pointsFor_12 rfl (by decide) ?_
    refine j_icmp_lt h (tgt := 67) (q := 17) dX3_pointsFor_14 rfl (by decide) (fun c_14 => ?_) (fun c_14 => ?_)
    · rw [i_ltL (by omega) (by decide)] at c_14
      refine j_iload_n h (q := 68) 0 dX3_pointsFor_67 rfl rfl ?_
      refine j_if_eq h (tgt := 75) (q := 71) dX3_pointsFor_68 rfl (by decide) (fun c_68 => ?_) (fun c_68 => ?_)
      · exact absurd c_68 (by decide)
      refine j_iconst h (q := 72) (2) dX3_pointsFor_71 rfl (by decide) ?_
      refine j_goto h (tgt := 87) dX3_pointsFor_72 (by decide) ?_
      refine j_iret h rfl dX3_pointsFor_87 ?_
      rw [pts_ref G hk]
      exact ⟨_, rfl, by rw [if_neg (by omega), if_pos (by omega)]; rfl, rfl⟩
    · rw [i_ltL (by omega) (by decide)] at c_14
      refine j_iload_n h (q := 18) 2 dX3_pointsFor_17 rfl rfl ?_
      refine j_cS h (q := 21) mo_X3_isHouse mS_X3_isHouse mL_X3_68 (m_isHouse g _ rfl (by omega)) (by decide) rfl rfl (Nat.le_of_ble_eq_true rfl) dX3_pointsFor_18 rfl ?_
      rintro _ w18 ⟨x18, rfl, e⟩
      obtain ⟨rfl, rfl⟩ := e
      refine j_if_eq h (tgt := 45) (q := 24) dX3_pointsFor_21 rfl (by decide) (fun c_21 => ?_) (fun c_21 => ?_)
      · rw [b2i_0] at c_21
        refine j_iconst h (q := 46) (0) dX3_pointsFor_45 rfl (by decide) ?_
        refine j_istore h (q := 48) (loc' := [(4, _), (3, _), (0, _), (1, _), (2, _)]) dX3_pointsFor_46 rfl (by decide) rfl ?_
        refine j_iload_n h (q := 49) 1 dX3_pointsFor_48 rfl rfl ?_
        refine j_if_eq h (tgt := 56) (q := 52) dX3_pointsFor_49 rfl (by decide) (fun c_49 => ?_) (fun c_49 => ?_)
        · exact absurd c_49 (by decide)
        refine j_iconst h (q := 53) (3) dX3_pointsFor_52 rfl (by decide) ?_
        refine j_goto h (tgt := 66) dX3_pointsFor_53 (by decide) ?_
        refine j_iret h rfl dX3_pointsFor_66 ?_
        rw [pts_ref G hk]
        exact ⟨_, rfl, by rw [if_pos (by omega), if_pos (by omega)]; rfl, rfl⟩
      · rw [b2i_1] at c_21
        refine j_iload_n h (q := 25) 2 dX3_pointsFor_24 rfl rfl ?_
        refine j_bipush h (q := 27) (6) dX3_pointsFor_25 rfl (by decide) ?_
        refine j_isub h (q := 28) dX3_pointsFor_27 rfl ?_
        refine j_iconst h (q := 29) (4) dX3_pointsFor_28 rfl (by decide) ?_
        have hh := isH_t c_21
        rw [i_subL (by omega)]
        refine j_idiv h (q := 30) dX3_pointsFor_29 rfl (by decide) ?_
        refine j_aload_n h (q := 31) 1 dX3_pointsFor_30 rfl rfl ?_
        refine j_get h (q := 34) inX3 (C := RX3) (T := TX3) (N := 17) (ci := 3) rfl 0 (by decide) mF_X3_7 (by decide) (mw_0 _ _ _) rfl dX3_pointsFor_31 rfl ?_
        refine j_sipush h (q := 37) (220) dX3_pointsFor_34 rfl (by decide) ?_
        refine j_ldn h (q := 38) (220) (by decide) (mw_st _ _ _) rfl (by decide) (by decide) dX3_pointsFor_37 rfl ?_
        rw [M_sd R, show (4 : Int32) = nI 4 from rfl, pk_div (by omega) (by decide) (by decide)]
        have e2 := G_t G
        refine j_icmp_eq h (tgt := 45) (q := 41) dX3_pointsFor_38 rfl (by decide) (fun c_38 => ?_) (fun c_38 => ?_)
        · rw [nI_eqS (by omega) (by omega)] at c_38
          refine j_iconst h (q := 46) (0) dX3_pointsFor_45 rfl (by decide) ?_
          refine j_istore h (q := 48) (loc' := [(4, _), (3, _), (0, _), (1, _), (2, _)]) dX3_pointsFor_46 rfl (by decide) rfl ?_
          refine j_iload_n h (q := 49) 1 dX3_pointsFor_48 rfl rfl ?_
          refine j_if_eq h (tgt := 56) (q := 52) dX3_pointsFor_49 rfl (by decide) (fun c_49 => ?_) (fun c_49 => ?_)
          · exact absurd c_49 (by decide)
          refine j_iconst h (q := 53) (3) dX3_pointsFor_52 rfl (by decide) ?_
          refine j_goto h (tgt := 66) dX3_pointsFor_53 (by decide) ?_
          refine j_iret h rfl dX3_pointsFor_66 ?_
          rw [pts_ref G hk]
          exact ⟨_, rfl, by rw [if_pos (by omega), if_pos (by omega)]; rfl, rfl⟩
        · rw [nI_eqS (by omega) (by omega)] at c_38
          refine j_iconst h (q := 42) (1) dX3_pointsFor_41 rfl (by decide) ?_
          refine j_goto h (tgt := 46) dX3_pointsFor_42 (by decide) ?_
          refine j_istore h (q := 48) (loc' := [(4, _), (3, _), (0, _), (1, _), (2, _)]) dX3_pointsFor_46 rfl (by decide) rfl ?_
          refine j_iload_n h (q := 49) 1 dX3_pointsFor_48 rfl rfl ?_
          refine j_if_eq h (tgt := 56) (q := 52) dX3_pointsFor_49 rfl (by decide) (fun c_49 => ?_) (fun c_49 => ?_)
          · exact absurd c_49 (by decide)
          refine j_iconst h (q := 53) (3) dX3_pointsFor_52 rfl (by decide) ?_
          refine j_goto h (tgt := 66) dX3_pointsFor_53 (by decide) ?_
          refine j_iret h rfl dX3_pointsFor_66 ?_
          rw [pts_ref G hk]
          exact ⟨_, rfl, by rw [if_pos (by omega), if_pos (by omega)]; rfl, rfl⟩

set_option maxRecDepth 100000 in
set_option maxHeartbeats 4000000 in
theorem m_ownCards (g : jG) (w : jW) (M : Ms) (γ : Gm) (L : LK M γ) {a : Int32} {s : Nat} (ha : a = nI s) (hs : s < 2)  : ConI g 0 yX3_ownCards cX3_ownCards 2 (some (.int)) [.ref (gr g 67), .int a] (mw g w M) (fun x w' => x = nI (leftG (qn γ) s) ∧ w' = mw g w M) := by
  refine con_of (by decide +kernel) (Nat.le_of_ble_eq_true rfl) [(0, _), (1, _)] rfl (fun K h => ?_)
  subst ha
  refine j_aload_n h (q := 1) 0 dX3_ownCards_0 rfl rfl ?_
  refine j_get h (q := 4) inX3 (C := RX3) (T := TX3) (N := 17) (ci := 3) rfl 8 (by decide) mF_X3_28 (by decide) (mw_0 _ _ _) rfl dX3_ownCards_1 rfl ?_
  refine j_iconst h (q := 5) (0) dX3_ownCards_4 rfl (by decide) ?_
  refine j_iload_n h (q := 6) 1 dX3_ownCards_5 rfl rfl ?_
  refine j_iadd h (q := 7) dX3_ownCards_6 rfl ?_
  refine j_ldn h (q := 8) (0 + s) (by decide) (mw_sz _ _ _) (by first | rfl | (simp only [nI_add, i_addL, i_Ladd, i_mulL, i_Lmul]; done) | (simp only [nI_add, i_addL, i_Ladd, i_mulL, i_Lmul]; congr 1; omega)) (by omega) (by decide) dX3_ownCards_7 rfl ?_
  rw [Nat.zero_add, (L s (by omega)).1]
  refine j_aload_n h (q := 9) 0 dX3_ownCards_8 rfl rfl ?_
  refine j_get h (q := 12) inX3 (C := RX3) (T := TX3) (N := 17) (ci := 3) rfl 8 (by decide) mF_X3_28 (by decide) (mw_0 _ _ _) rfl dX3_ownCards_9 rfl ?_
  refine j_iconst h (q := 13) (2) dX3_ownCards_12 rfl (by decide) ?_
  refine j_iload_n h (q := 14) 1 dX3_ownCards_13 rfl rfl ?_
  refine j_iadd h (q := 15) dX3_ownCards_14 rfl ?_
  refine j_ldn h (q := 16) (2 + s) (by decide) (mw_sz _ _ _) (by first | rfl | (simp only [nI_add, i_addL, i_Ladd, i_mulL, i_Lmul]; done) | (simp only [nI_add, i_addL, i_Ladd, i_mulL, i_Lmul]; congr 1; omega)) (by omega) (by decide) dX3_ownCards_15 rfl ?_
  rw [(L (2 + s) (by omega)).1]
  refine j_iadd h (q := 17) dX3_ownCards_16 rfl ?_
  refine j_aload_n h (q := 18) 0 dX3_ownCards_17 rfl rfl ?_
  refine j_get h (q := 21) inX3 (C := RX3) (T := TX3) (N := 17) (ci := 3) rfl 8 (by decide) mF_X3_28 (by decide) (mw_0 _ _ _) rfl dX3_ownCards_18 rfl ?_
  refine j_iconst h (q := 22) (4) dX3_ownCards_21 rfl (by decide) ?_
  refine j_iload_n h (q := 23) 1 dX3_ownCards_22 rfl rfl ?_
  refine j_iadd h (q := 24) dX3_ownCards_23 rfl ?_
  refine j_ldn h (q := 25) (4 + s) (by decide) (mw_sz _ _ _) (by first | rfl | (simp only [nI_add, i_addL, i_Ladd, i_mulL, i_Lmul]; done) | (simp only [nI_add, i_addL, i_Ladd, i_mulL, i_Lmul]; congr 1; omega)) (by omega) (by decide) dX3_ownCards_24 rfl ?_
  rw [(L (4 + s) (by omega)).1]
  refine j_iadd h (q := 26) dX3_ownCards_25 rfl ?_
  refine j_iret h rfl dX3_ownCards_26 ?_
  exact ⟨_, rfl, by rw [nI_add, nI_add]; rfl, rfl⟩

set_option maxRecDepth 100000 in
set_option maxHeartbeats 4000000 in
theorem m_lay (g : jG) (w : jW) (M : Ms) {a : Int32} {k : Nat} (ha : a = nI k) (hk : k < 104) (p i : Int32)  : ConV g 0 yX3_lay cX3_lay 4 none [.ref (gr g 67), .int a, .int p, .int i] (mw g w M) (fun w' => w' = mw g w (sst M (upd (upd (Mst M) k p) (104 + k) i))) := by
  refine con_of (by decide +kernel) (Nat.le_of_ble_eq_true rfl) [(0, _), (1, _), (2, _), (3, _)] rfl (fun K h => ?_)
  subst ha
  refine j_aload_n h (q := 1) 0 dX3_lay_0 rfl rfl ?_
  refine j_get h (q := 4) inX3 (C := RX3) (T := TX3) (N := 17) (ci := 3) rfl 0 (by decide) mF_X3_7 (by decide) (mw_0 _ _ _) rfl dX3_lay_1 rfl ?_
  refine j_iconst h (q := 5) (0) dX3_lay_4 rfl (by decide) ?_
  refine j_iload_n h (q := 6) 1 dX3_lay_5 rfl rfl ?_
  refine j_iadd h (q := 7) dX3_lay_6 rfl ?_
  refine j_iload_n h (q := 8) 2 dX3_lay_7 rfl rfl ?_
  refine j_stn h (q := 9) (k) (by decide) (mw_st _ _ _) (by rw [i_Ladd, Nat.zero_add]) (by omega) (by decide) dX3_lay_8 rfl ?_
  refine j_stk rfl mw_ust ?_
  refine j_aload_n h (q := 10) 0 dX3_lay_9 rfl rfl ?_
  refine j_get h (q := 13) inX3 (C := RX3) (T := TX3) (N := 17) (ci := 3) rfl 0 (by decide) mF_X3_7 (by decide) (mw_0 _ _ _) rfl dX3_lay_10 rfl ?_
  refine j_bipush h (q := 15) (104) dX3_lay_13 rfl (by decide) ?_
  refine j_iload_n h (q := 16) 1 dX3_lay_15 rfl rfl ?_
  refine j_iadd h (q := 17) dX3_lay_16 rfl ?_
  refine j_iload_n h (q := 18) 3 dX3_lay_17 rfl rfl ?_
  refine j_stn h (q := 19) (104 + k) (by decide) (mw_st _ _ _) (by first | rfl | (simp only [nI_add, i_addL, i_Ladd, i_mulL, i_Lmul]; done) | (simp only [nI_add, i_addL, i_Ladd, i_mulL, i_Lmul]; congr 1; omega)) (by omega) (by decide) dX3_lay_18 rfl ?_
  refine j_stk rfl mw_ust ?_
  refine j_vret h rfl dX3_lay_19 ?_
  exact ⟨rfl, rfl⟩

set_option maxRecDepth 100000 in
set_option maxHeartbeats 4000000 in
theorem m_doesMove (g : jG) (w : jW) (M : Ms) (γ : Gm) (R : MR (Mst M) γ) (G : GI γ) (L : LK M γ) {a b : Int32} {f u : Nat} (ha : a = nI f) (hb : b = nI u) (hf : f < 22) (hu : u < 22) (hk : okG γ f u = true)  : ConI g 3 yX3_doesMove cX3_doesMove 5 (some (.int)) [.ref (gr g 67), .int a, .int b] (mw g w M) (fun x w' => x = gainG γ f u ∧ ∃ st sz tp, w' = mw g w (stp (ssz (sst M st) sz) tp) ∧ MR st (moveG γ f u) ∧ LK (stp (ssz (sst M st) sz) tp) (moveG γ f u)) := by
  refine con_of (by decide +kernel) (Nat.le_of_ble_eq_true rfl) [(0, _), (1, _), (2, _)] rfl (fun K h => ?_)
  subst ha; subst hb
  refine j_aload_n h (q := 1) 0 dX3_doesMove_0 rfl rfl ?_
  refine j_get h (q := 4) inX3 (C := RX3) (T := TX3) (N := 17) (ci := 3) rfl 0 (by decide) mF_X3_7 (by decide) (mw_0 _ _ _) rfl dX3_doesMove_1 rfl ?_
  refine j_sipush h (q := 7) (220) dX3_doesMove_4 rfl (by decide) ?_
  refine j_ldn h (q := 8) (220) (by decide) (mw_st _ _ _) rfl (by decide) (by decide) dX3_doesMove_7 rfl ?_
  rw [M_sd R]
  refine j_istore_n h (q := 9) (loc' := [(3, _), (0, _), (1, _), (2, _)]) dX3_doesMove_8 rfl (by decide) rfl ?_
  refine j_aload_n h (q := 10) 1 dX3_doesMove_9 rfl rfl ?_
  refine j_iload_n h (q := 11) 2 dX3_doesMove_10 rfl rfl ?_
  refine j_iload_n h (q := 12) 3 dX3_doesMove_11 rfl rfl ?_
  refine j_cV h (q := 15) (C := RX3) (T := TX3) (N := 17) (ci := 3) mo_X3_pointsFor mI_X3_pointsFor mV_X3_pointsFor mL_X3_98 (m_pointsFor g _ _ _ R G L rfl rfl hf hu hk) (by decide) (by decide) (mw_0 _ _ _) rfl rfl rfl (Nat.le_of_ble_eq_true rfl) dX3_doesMove_12 rfl ?_
  rintro _ w12 ⟨x12, rfl, e⟩
  obtain ⟨rfl, rfl⟩ := e
  obtain ⟨n1, n2, n3⟩ := okG_ne hk (G_t G)
  have n0 := (okG_spec hk).2.1
  have e2 := G_t G
  have G2 := GI_move G hk hu
  refine j_istore h (q := 17) (loc' := [(4, _), (3, _), (0, _), (1, _), (2, _)]) dX3_doesMove_15 rfl (by decide) rfl ?_
  refine j_aload_n h (q := 18) 2 dX3_doesMove_17 rfl rfl ?_
  refine j_aload_n h (q := 19) 2 dX3_doesMove_18 rfl rfl ?_
  refine j_get h (q := 22) inX3 (C := RX3) (T := TX3) (N := 17) (ci := 3) rfl 9 (by decide) mF_X3_31 (by decide) (mw_0 _ _ _) rfl dX3_doesMove_19 rfl ?_
  refine j_iload_n h (q := 23) 3 dX3_doesMove_22 rfl rfl ?_
  refine j_ldn h (q := 24) (f) (by decide) (mw_tp _ _ _) rfl hf (by decide) dX3_doesMove_23 rfl ?_
  rw [(L f hf).2, topO_k n0]
  refine j_iload_n h (q := 25) 4 dX3_doesMove_24 rfl rfl ?_
  refine j_aload_n h (q := 26) 2 dX3_doesMove_25 rfl rfl ?_
  refine j_get h (q := 29) inX3 (C := RX3) (T := TX3) (N := 17) (ci := 3) rfl 8 (by decide) mF_X3_28 (by decide) (mw_0 _ _ _) rfl dX3_doesMove_26 rfl ?_
  refine j_iload_n h (q := 30) 4 dX3_doesMove_29 rfl rfl ?_
  refine j_ldn h (q := 31) (u) (by decide) (mw_sz _ _ _) rfl hu (by decide) dX3_doesMove_30 rfl ?_
  rw [(L u hu).1]
  refine j_cV h (q := 34) (C := RX3) (T := TX3) (N := 17) (ci := 3) mo_X3_lay mI_X3_lay mV_X3_lay mL_X3_49 (m_lay g _ _ rfl (G_k G hf n0) _ _) (by decide) (by decide) (mw_0 _ _ _) rfl rfl rfl (Nat.le_of_ble_eq_true rfl) dX3_doesMove_31 rfl ?_
  rintro _ w31 ⟨rfl, e⟩
  subst e
  have R1 := MR_mv R G hf hu n1 n0
  generalize upd (upd (Mst M) (topK γ f) (nI u)) (104 + topK γ f) (nI (qn γ u)) = st1 at R1 ⊢
  refine j_aload_n h (q := 35) 2 dX3_doesMove_34 rfl rfl ?_
  refine j_get h (q := 38) inX3 (C := RX3) (T := TX3) (N := 17) (ci := 3) rfl 0 (by decide) mF_X3_7 (by decide) (mw_0 _ _ _) rfl dX3_doesMove_35 rfl ?_
  refine j_sipush h (q := 41) (223) dX3_doesMove_38 rfl (by decide) ?_
  refine j_dup2 h (q := 42) dX3_doesMove_41 rfl rfl rfl ?_
  refine j_ldn h (q := 43) (223) (by decide) (mw_st _ _ _) rfl (by decide) (by decide) dX3_doesMove_42 rfl ?_
  refine j_iconst h (q := 44) (1) dX3_doesMove_43 rfl (by decide) ?_
  refine j_iadd h (q := 45) dX3_doesMove_44 rfl ?_
  refine j_stn h (q := 46) (223) (by decide) (mw_st _ _ _) rfl (by decide) (by decide) dX3_doesMove_45 rfl ?_
  refine j_stk rfl mw_ust ?_
  refine j_aload_n h (q := 47) 2 dX3_doesMove_46 rfl rfl ?_
  have Ga : GI (mvN γ f u, mvC γ f u, qp γ, qf γ, qz γ, qt γ, qd γ, qm γ + 1, qo γ) := ⟨G2.1, G.2⟩
  have Gb : GI (mvN γ f u, mvC γ f u, γ.2.2) := ⟨G2.1, G.2⟩
  have u223 : ∀ (v : Int32) (j : Nat), j ≠ 223 → upd st1 223 v j = st1 j := fun v j hj => by unfold upd; rw [if_neg hj]
  have Ra : MR (upd st1 223 (st1 223 + 1)) (mvN γ f u, mvC γ f u, qp γ, qf γ, qz γ, qt γ, qd γ, qm γ + 1, qo γ) := MR_put R1 Gb rfl rfl (fun j hj => u223 _ j (by omega)) (fun s hs => by rw [u223 _ _ (by omega)]; exact (R1.2.1 s hs).1) (fun s hs => by rw [u223 _ _ (by omega)]; exact (R1.2.1 s hs).2) (fun k hk2 => by rw [u223 _ _ (by omega)]; exact R1.2.2.1 k hk2) (by rw [u223 _ _ (by omega)]; exact R1.2.2.2.1) (by rw [u223 _ _ (by omega)]; exact R1.2.2.2.2.1) (by rw [u223 _ _ (by omega)]; exact R1.2.2.2.2.2.1) (by unfold upd; rw [if_pos rfl]; exact congrArg (fun z => z + 1) (R1.2.2.2.2.2.2))
  refine j_cV h (q := 50) (C := RX3) (T := TX3) (N := 17) (ci := 3) mo_X3_look mI_X3_look mV_X3_look mL_X3_102 (m_look g w (sst M (upd st1 223 (st1 223 + 1))) (mvN γ f u, mvC γ f u, qp γ, qf γ, qz γ, qt γ, qd γ, qm γ + 1, qo γ) Ra Ga) (by decide) (by decide) (mw_0 _ _ _) rfl rfl rfl (Nat.le_of_ble_eq_true rfl) dX3_doesMove_47 rfl ?_
  rintro _ w47 ⟨rfl, e⟩
  obtain ⟨sz, tp, rfl, L2⟩ := e
  refine j_aload_n h (q := 51) 2 dX3_doesMove_50 rfl rfl ?_
  refine j_iload_n h (q := 52) 1 dX3_doesMove_51 rfl rfl ?_
  refine j_cV h (q := 55) (C := RX3) (T := TX3) (N := 17) (ci := 3) mo_X3_ownCards mI_X3_ownCards mV_X3_ownCards mL_X3_105 (m_ownCards g _ _ _ L2 (s := qt γ) rfl e2) (by decide) (by decide) (mw_0 _ _ _) rfl rfl rfl (Nat.le_of_ble_eq_true rfl) dX3_doesMove_52 rfl ?_
  rintro _ w52 ⟨x52, rfl, e⟩
  obtain ⟨rfl, rfl⟩ := e
  have hb0 := G_n2 G2 (p := qt γ) (by omega)
  have hb1 := G_n2 G2 (p := 2 + qt γ) (by omega)
  have hb2 := G_n2 G2 (p := 4 + qt γ) (by omega)
  have hlb : leftG (mvN γ f u) (qt γ) < 1000000 := by
    have a0 : mvN γ f u (qt γ) ≤ 104 := hb0
    have a1 : mvN γ f u (2 + qt γ) ≤ 104 := hb1
    have a2 : mvN γ f u (4 + qt γ) ≤ 104 := hb2
    unfold leftG; omega
  have hoo : qo γ = false := (okG_spec hk).1
  generalize upd st1 223 (st1 223 + 1) = st2 at Ra L2 ⊢
  refine j_if_ne h (tgt := 70) (q := 58) dX3_doesMove_55 rfl (by decide) (fun c_55 => ?_) (fun c_55 => ?_)
  · have c_55 : ¬ leftG (mvN γ f u) (qt γ) = 0 := fun z => c_55 (by show nI (leftG (mvN γ f u) (qt γ)) = 0; rw [z]; rfl)
    have he : endG γ f u = false := by unfold endG; rw [beq_eq_false_iff_ne]; exact c_55
    refine j_aload_n h (q := 71) 2 dX3_doesMove_70 rfl rfl ?_
    refine j_get h (q := 74) inX3 (C := RX3) (T := TX3) (N := 17) (ci := 3) rfl 0 (by decide) mF_X3_7 (by decide) (mw_0 _ _ _) rfl dX3_doesMove_71 rfl ?_
    refine j_sipush h (q := 77) (208) dX3_doesMove_74 rfl (by decide) ?_
    refine j_iload_n h (q := 78) 1 dX3_doesMove_77 rfl rfl ?_
    refine j_iadd h (q := 79) dX3_doesMove_78 rfl ?_
    refine j_dup2 h (q := 80) dX3_doesMove_79 rfl rfl rfl ?_
    refine j_ldn h (q := 81) (208 + qt γ) (by decide) (mw_st _ _ _) (by first | rfl | (simp only [nI_add, i_addL, i_Ladd, i_mulL, i_Lmul]; done) | (simp only [nI_add, i_addL, i_Ladd, i_mulL, i_Lmul]; congr 1; omega)) (by omega) (by decide) dX3_doesMove_80 rfl ?_
    refine j_iload h (q := 83) 0 dX3_doesMove_81 rfl rfl ?_
    refine j_iadd h (q := 84) dX3_doesMove_83 rfl ?_
    refine j_stn h (q := 85) (208 + qt γ) (by decide) (mw_st _ _ _) (by first | rfl | (simp only [nI_add, i_addL, i_Ladd, i_mulL, i_Lmul]; done) | (simp only [nI_add, i_addL, i_Ladd, i_mulL, i_Lmul]; congr 1; omega)) (by omega) (by decide) dX3_doesMove_84 rfl ?_
    refine j_stk rfl mw_ust ?_
    refine j_iload h (q := 87) 0 dX3_doesMove_85 rfl rfl ?_
    refine j_iret h rfl dX3_doesMove_87 ?_
    refine ⟨_, rfl, by unfold gainG; rw [he]; first | rfl | (show _ = _ + (0 : Int32); rw [Int32.add_zero]), _, sz, tp, rfl, ?_, LK_2 L2 rfl rfl⟩
    obtain ⟨st3, hst3⟩ : ∃ st3, st3 = st2 := ⟨_, rfl⟩
    have s3 : ∀ j, j ≠ 221 → st3 j = st2 j := fun j _ => by rw [hst3]
    have s4 : st3 221 = 0 := by rw [hst3, Ra.2.2.2.2.1]; show b2i (qo γ) = 0; rw [hoo]; rfl
    have up : ∀ (v : Int32) (j : Nat), j ≠ 208 + qt γ → upd st3 (208 + qt γ) v j = st3 j := fun v j hj => by unfold upd; rw [if_neg hj]
    show MR (upd st2 (208 + qt γ) (st2 (208 + qt γ) + nI (ptsG γ f u))) _
    rw [← hst3]
    refine MR_put Ra Ga rfl rfl (fun j hj => by rw [up _ _ (by omega), s3 _ (by omega)]) (fun s hs => ?_) (fun s hs => by rw [up _ _ (by omega), s3 _ (by omega)]; exact (Ra.2.1 s hs).2) (fun k hk2 => by rw [up _ _ (by omega), s3 _ (by omega)]; exact Ra.2.2.1 k hk2) (by rw [up _ _ (by omega), s3 _ (by omega)]; exact Ra.2.2.2.1) (by rw [up _ _ (by omega), s4, hoo, he]; rfl) (by rw [up _ _ (by omega), s3 _ (by omega)]; exact Ra.2.2.2.2.2.1) (by rw [up _ _ (by omega), s3 _ (by omega)]; exact Ra.2.2.2.2.2.2)
    show upd st3 (208 + qt γ) _ (208 + s) = (if s = qt γ then qp γ s + gainG γ f u else qp γ s)
    by_cases z : s = qt γ
    · rw [if_pos z, z]
      unfold upd gainG
      rw [if_pos rfl, s3 _ (by omega), (Ra.2.1 _ e2).1, he]
      first | rfl | (show _ = _ + (_ + (0 : Int32)); rw [Int32.add_zero])
    · rw [if_neg z, up _ _ (by omega), s3 _ (by omega)]; exact (Ra.2.1 s hs).1
  · have c_55 : leftG (mvN γ f u) (qt γ) = 0 := (i_eqL hlb (by decide)).mp c_55
    have he : endG γ f u = true := by unfold endG; rw [beq_iff_eq]; exact c_55
    refine j_aload_n h (q := 59) 2 dX3_doesMove_58 rfl rfl ?_
    refine j_get h (q := 62) inX3 (C := RX3) (T := TX3) (N := 17) (ci := 3) rfl 0 (by decide) mF_X3_7 (by decide) (mw_0 _ _ _) rfl dX3_doesMove_59 rfl ?_
    refine j_sipush h (q := 65) (221) dX3_doesMove_62 rfl (by decide) ?_
    refine j_iconst h (q := 66) (1) dX3_doesMove_65 rfl (by decide) ?_
    refine j_stn h (q := 67) (221) (by decide) (mw_st _ _ _) rfl (by decide) (by decide) dX3_doesMove_66 rfl ?_
    refine j_stk rfl mw_ust ?_
    refine j_iinc h (q := 70) (loc' := [(4, _), (3, _), (0, _), (1, _), (2, _)]) 0 _ dX3_doesMove_67 rfl rfl rfl (by decide) rfl ?_
    refine j_aload_n h (q := 71) 2 dX3_doesMove_70 rfl rfl ?_
    refine j_get h (q := 74) inX3 (C := RX3) (T := TX3) (N := 17) (ci := 3) rfl 0 (by decide) mF_X3_7 (by decide) (mw_0 _ _ _) rfl dX3_doesMove_71 rfl ?_
    refine j_sipush h (q := 77) (208) dX3_doesMove_74 rfl (by decide) ?_
    refine j_iload_n h (q := 78) 1 dX3_doesMove_77 rfl rfl ?_
    refine j_iadd h (q := 79) dX3_doesMove_78 rfl ?_
    refine j_dup2 h (q := 80) dX3_doesMove_79 rfl rfl rfl ?_
    refine j_ldn h (q := 81) (208 + qt γ) (by decide) (mw_st _ _ _) (by first | rfl | (simp only [nI_add, i_addL, i_Ladd, i_mulL, i_Lmul]; done) | (simp only [nI_add, i_addL, i_Ladd, i_mulL, i_Lmul]; congr 1; omega)) (by omega) (by decide) dX3_doesMove_80 rfl ?_
    refine j_iload h (q := 83) 0 dX3_doesMove_81 rfl rfl ?_
    refine j_iadd h (q := 84) dX3_doesMove_83 rfl ?_
    refine j_stn h (q := 85) (208 + qt γ) (by decide) (mw_st _ _ _) (by first | rfl | (simp only [nI_add, i_addL, i_Ladd, i_mulL, i_Lmul]; done) | (simp only [nI_add, i_addL, i_Ladd, i_mulL, i_Lmul]; congr 1; omega)) (by omega) (by decide) dX3_doesMove_84 rfl ?_
    refine j_stk rfl mw_ust ?_
    refine j_iload h (q := 87) 0 dX3_doesMove_85 rfl rfl ?_
    refine j_iret h rfl dX3_doesMove_87 ?_
    refine ⟨_, rfl, by unfold gainG; rw [he]; first | rfl | (show _ = _ + (0 : Int32); rw [Int32.add_zero]), _, sz, tp, rfl, ?_, LK_2 L2 rfl rfl⟩
    have u1 : ∀ (v : Int32) (j : Nat), j ≠ 221 → upd st2 221 v j = st2 j := fun v j hj => by unfold upd; rw [if_neg hj]
    generalize hst3 : upd st2 221 1 = st3
    have s3 : ∀ j, j ≠ 221 → st3 j = st2 j := fun j hj => by rw [← hst3]; exact u1 1 j hj
    have s4 : st3 221 = 1 := by rw [← hst3]; unfold upd; rw [if_pos rfl]
    have up : ∀ (v : Int32) (j : Nat), j ≠ 208 + qt γ → upd st3 (208 + qt γ) v j = st3 j := fun v j hj => by unfold upd; rw [if_neg hj]
    show MR (upd st3 (208 + qt γ) (st3 (208 + qt γ) + (nI (ptsG γ f u) + 10))) _
    refine MR_put Ra Ga rfl rfl (fun j hj => by rw [up _ _ (by omega), s3 _ (by omega)]) (fun s hs => ?_) (fun s hs => by rw [up _ _ (by omega), s3 _ (by omega)]; exact (Ra.2.1 s hs).2) (fun k hk2 => by rw [up _ _ (by omega), s3 _ (by omega)]; exact Ra.2.2.1 k hk2) (by rw [up _ _ (by omega), s3 _ (by omega)]; exact Ra.2.2.2.1) (by rw [up _ _ (by omega), s4, hoo, he]; rfl) (by rw [up _ _ (by omega), s3 _ (by omega)]; exact Ra.2.2.2.2.2.1) (by rw [up _ _ (by omega), s3 _ (by omega)]; exact Ra.2.2.2.2.2.2)
    show upd st3 (208 + qt γ) _ (208 + s) = (if s = qt γ then qp γ s + gainG γ f u else qp γ s)
    by_cases z : s = qt γ
    · rw [if_pos z, z]
      unfold upd gainG
      rw [if_pos rfl, s3 _ (by omega), (Ra.2.1 _ e2).1, he]
      first | rfl | (show _ = _ + (_ + (0 : Int32)); rw [Int32.add_zero])
    · rw [if_neg z, up _ _ (by omega), s3 _ (by omega)]; exact (Ra.2.1 s hs).1
